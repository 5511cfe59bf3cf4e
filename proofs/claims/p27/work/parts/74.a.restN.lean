abbrev cX4_set : ByteArray := prog_1_method_5_code
def yX4_set : MethodName := ⟨RX4, "set", "(II)I"⟩
abbrev cX4_fill : ByteArray := prog_1_method_6_code
def yX4_fill : MethodName := ⟨RX4, "fill", "(III)I"⟩
abbrev cX4_turn : ByteArray := prog_1_method_7_code
def yX4_turn : MethodName := ⟨RX4, "turn", "(II)I"⟩
abbrev cX4_swap : ByteArray := prog_1_method_8_code
def yX4_swap : MethodName := ⟨RX4, "swap", "(II)I"⟩
abbrev cX4_least : ByteArray := prog_1_method_30_code
def yX4_least : MethodName := ⟨RX4, "least", "(IIII)I"⟩
abbrev cX4_both : ByteArray := prog_1_method_33_code
def yX4_both : MethodName := ⟨RX4, "both", "(IIIIII)I"⟩
abbrev cX4_bothAt : ByteArray := prog_1_method_34_code
def yX4_bothAt : MethodName := ⟨RX4, "bothAt", "(IIIIIII)I"⟩
abbrev cX4_swings : ByteArray := prog_1_method_44_code
def yX4_swings : MethodName := ⟨RX4, "swings", "(IIII)I"⟩
abbrev cX4_told : ByteArray := prog_1_method_45_code
def yX4_told : MethodName := ⟨RX4, "told", "(I)I"⟩
abbrev cX4_overwrite : ByteArray := prog_1_method_52_code
def yX4_overwrite : MethodName := ⟨RX4, "overwrite", "(LMajorityIndex$Tree;III)I"⟩
abbrev cX4_refusalOfBoth : ByteArray := prog_1_method_54_code
def yX4_refusalOfBoth : MethodName := ⟨RX4, "refusalOfBoth", "(IIIIII)I"⟩
abbrev cX4_gatherHeavyOfBoth : ByteArray := prog_1_method_55_code
def yX4_gatherHeavyOfBoth : MethodName := ⟨RX4, "gatherHeavyOfBoth", "(LMajorityIndex$Tree;IIIIII)V"⟩
abbrev cX4_heavyValues : ByteArray := prog_1_method_56_code
def yX4_heavyValues : MethodName := ⟨RX4, "heavyValues", "(IIII)I"⟩
abbrev cX4_heavyVotesBy : ByteArray := prog_1_method_57_code
def yX4_heavyVotesBy : MethodName := ⟨RX4, "heavyVotesBy", "(LMajorityIndex$Tree;IIIII)I"⟩
abbrev cX4_rootTotalWith : ByteArray := prog_1_method_62_code
def yX4_rootTotalWith : MethodName := ⟨RX4, "rootTotalWith", "(LMajorityIndex$Tree;II)I"⟩
def wsX4_overwrite_r1 : List Cond := [Cond.fieldLink RX4 12 "MajorityIndex" "row" "LMajorityIndex$Row;", Cond.fieldLink RX4 110 "MajorityIndex$Row" "cell" "[I", Cond.methodLink RX4 87 yX2_renew, Cond.instanceMethod yX2_renew, Cond.selects RX2 yX2_renew yX2_renew, Cond.initialized RX2, Cond.code yX2_renew cX2_renew 5 (some .int), Cond.fieldLink RX2 50 "MajorityIndex$Tree" "nodes" "I", Cond.fieldLink RX2 18 "MajorityIndex$Tree" "from" "[I", Cond.fieldLink RX2 22 "MajorityIndex$Tree" "to" "[I", Cond.methodLink RX2 61 yX2_putTogether, Cond.instanceMethod yX2_putTogether, Cond.selects RX2 yX2_putTogether yX2_putTogether, Cond.code yX2_putTogether cX2_putTogether 2 none, Cond.fieldLink RX2 12 "MajorityIndex$Tree" "joined" "LMajorityIndex$Votes;", Cond.fieldLink RX2 40 "MajorityIndex$Tree" "row" "LMajorityIndex$Row;", Cond.fieldLink RX2 74 "MajorityIndex$Row" "cell" "[I", Cond.fieldLink RX2 85 "MajorityIndex$Tree" "slotsHere" "I", Cond.methodLink RX2 71 yX3_clear, Cond.instanceMethod yX3_clear, Cond.selects RX3 yX3_clear yX3_clear, Cond.initialized RX3, Cond.code yX3_clear cX3_clear 1 none, Cond.fieldLink RX3 18 "MajorityIndex$Votes" "size" "I"]
def wsX4_overwrite_r2 : List Cond := [Cond.fieldLink RX3 22 "MajorityIndex$Votes" "lost" "I", Cond.fieldLink RX3 25 "MajorityIndex$Votes" "lessBy" "I", Cond.methodLink RX2 77 yX3_add, Cond.instanceMethod yX3_add, Cond.selects RX3 yX3_add yX3_add, Cond.code yX3_add cX3_add 4 none, Cond.fieldLink RX3 9 "MajorityIndex$Votes" "value" "[I", Cond.fieldLink RX3 15 "MajorityIndex$Votes" "number" "[I", Cond.methodLink RX2 81 yX2_joinNode, Cond.instanceMethod yX2_joinNode, Cond.selects RX2 yX2_joinNode yX2_joinNode, Cond.code yX2_joinNode cX2_joinNode 5 none, Cond.fieldLink RX2 25 "MajorityIndex$Tree" "size" "[I", Cond.fieldLink RX2 34 "MajorityIndex$Tree" "value" "[I", Cond.fieldLink RX2 37 "MajorityIndex$Tree" "number" "[I", Cond.fieldLink RX2 91 "MajorityIndex$Votes" "lost" "I", Cond.fieldLink RX2 28 "MajorityIndex$Tree" "lossOf" "[I", Cond.methodLink RX2 57 yX2_rightBelow, Cond.instanceMethod yX2_rightBelow, Cond.selects RX2 yX2_rightBelow yX2_rightBelow, Cond.code yX2_rightBelow cX2_rightBelow 3 (some .int), Cond.methodLink RX2 88 yX3_cancel, Cond.instanceMethod yX3_cancel, Cond.selects RX3 yX3_cancel yX3_cancel]
def wsX4_overwrite_r3 : List Cond := [Cond.code yX3_cancel cX3_cancel 4 none, Cond.methodLink RX3 32 yX3_order, Cond.instanceMethod yX3_order, Cond.selects RX3 yX3_order yX3_order, Cond.code yX3_order cX3_order 3 none, Cond.methodLink RX3 35 yX3_isAhead, Cond.instanceMethod yX3_isAhead, Cond.selects RX3 yX3_isAhead yX3_isAhead, Cond.code yX3_isAhead cX3_isAhead 3 (some .boolean), Cond.methodLink RX3 39 yX3_exchange, Cond.instanceMethod yX3_exchange, Cond.selects RX3 yX3_exchange yX3_exchange, Cond.code yX3_exchange cX3_exchange 5 none, Cond.methodLink RX2 64 yX2_isJoined, Cond.instanceMethod yX2_isJoined, Cond.selects RX2 yX2_isJoined yX2_isJoined, Cond.code yX2_isJoined cX2_isJoined 4 (some .boolean), Cond.fieldLink RX2 94 "MajorityIndex$Votes" "size" "I", Cond.fieldLink RX2 96 "MajorityIndex$Votes" "value" "[I", Cond.fieldLink RX2 97 "MajorityIndex$Votes" "number" "[I", Cond.methodLink RX2 68 yX2_keepJoined, Cond.instanceMethod yX2_keepJoined, Cond.selects RX2 yX2_keepJoined yX2_keepJoined, Cond.code yX2_keepJoined cX2_keepJoined 4 none]
def wsX4_overwrite_r4 : List Cond := [Cond.methodLink RX2 98 Lib.Math.min.name, Cond.static Lib.Math.min.name, Cond.initialized "java/lang/Math", Cond.code Lib.Math.min.name Lib.Math.min.code 2 (some .int), Cond.fieldLink RX2 31 "MajorityIndex$Tree" "lessBy" "[I", Cond.fieldLink RX2 104 "MajorityIndex$Votes" "lessBy" "I"]
def wsX4_overwrite : List Cond := .code yX4_overwrite cX4_overwrite 6 (some .int) :: ((wsX4_overwrite_r1 ++ (wsX4_overwrite_r2 ++ (wsX4_overwrite_r3 ++ wsX4_overwrite_r4))) ++ wsX40 ++ wsX00 ++ wsX20 ++ wsX30)
def wsX4_set_r1 : List Cond := [Cond.fieldLink RX4 12 "MajorityIndex" "row" "LMajorityIndex$Row;", Cond.methodLink RX4 64 yX0_hasPlace, Cond.instanceMethod yX0_hasPlace, Cond.selects RX0 yX0_hasPlace yX0_hasPlace, Cond.initialized RX0, Cond.code yX0_hasPlace cX0_hasPlace 2 (some .boolean), Cond.fieldLink RX0 15 "MajorityIndex$Row" "length" "I", Cond.methodLink RX4 68 yX4_isValue, Cond.static yX4_isValue, Cond.initialized RX4, Cond.code yX4_isValue cX4_isValue 1 (some .boolean), Cond.methodLink RX4 71 yX4_laidTree, Cond.instanceMethod yX4_laidTree, Cond.selects RX4 yX4_laidTree yX4_laidTree, Cond.code yX4_laidTree cX4_laidTree 1 (some (.object "MajorityIndex$Tree")), Cond.fieldLink RX4 53 "MajorityIndex" "treeIsOld" "Z", Cond.fieldLink RX4 21 "MajorityIndex" "tree" "LMajorityIndex$Tree;", Cond.fieldLink RX4 49 "MajorityIndex" "slotsNow" "I", Cond.fieldLink RX4 204 "MajorityIndex$Tree" "slotsHere" "I", Cond.fieldLink RX4 57 "MajorityIndex$Row" "length" "I", Cond.methodLink RX4 259 yX2_layRanges, Cond.instanceMethod yX2_layRanges, Cond.selects RX2 yX2_layRanges yX2_layRanges, Cond.initialized RX2]
def wsX4_set_r2 : List Cond := [Cond.code yX2_layRanges cX2_layRanges 2 none, Cond.fieldLink RX2 40 "MajorityIndex$Tree" "row" "LMajorityIndex$Row;", Cond.fieldLink RX2 44 "MajorityIndex$Row" "length" "I", Cond.fieldLink RX2 50 "MajorityIndex$Tree" "nodes" "I", Cond.fieldLink RX2 18 "MajorityIndex$Tree" "from" "[I", Cond.fieldLink RX2 22 "MajorityIndex$Tree" "to" "[I", Cond.methodLink RX2 53 yX2_layBelow, Cond.instanceMethod yX2_layBelow, Cond.selects RX2 yX2_layBelow yX2_layBelow, Cond.code yX2_layBelow cX2_layBelow 4 none, Cond.methodLink RX2 57 yX2_rightBelow, Cond.instanceMethod yX2_rightBelow, Cond.selects RX2 yX2_rightBelow yX2_rightBelow, Cond.code yX2_rightBelow cX2_rightBelow 3 (some .int), Cond.methodLink RX4 87 yX2_renew, Cond.instanceMethod yX2_renew, Cond.selects RX2 yX2_renew yX2_renew, Cond.code yX2_renew cX2_renew 5 (some .int), Cond.methodLink RX2 61 yX2_putTogether, Cond.instanceMethod yX2_putTogether, Cond.selects RX2 yX2_putTogether yX2_putTogether, Cond.code yX2_putTogether cX2_putTogether 2 none, Cond.fieldLink RX2 12 "MajorityIndex$Tree" "joined" "LMajorityIndex$Votes;", Cond.fieldLink RX2 74 "MajorityIndex$Row" "cell" "[I"]
def wsX4_set_r3 : List Cond := [Cond.fieldLink RX2 85 "MajorityIndex$Tree" "slotsHere" "I", Cond.methodLink RX2 71 yX3_clear, Cond.instanceMethod yX3_clear, Cond.selects RX3 yX3_clear yX3_clear, Cond.initialized RX3, Cond.code yX3_clear cX3_clear 1 none, Cond.fieldLink RX3 18 "MajorityIndex$Votes" "size" "I", Cond.fieldLink RX3 22 "MajorityIndex$Votes" "lost" "I", Cond.fieldLink RX3 25 "MajorityIndex$Votes" "lessBy" "I", Cond.methodLink RX2 77 yX3_add, Cond.instanceMethod yX3_add, Cond.selects RX3 yX3_add yX3_add, Cond.code yX3_add cX3_add 4 none, Cond.fieldLink RX3 9 "MajorityIndex$Votes" "value" "[I", Cond.fieldLink RX3 15 "MajorityIndex$Votes" "number" "[I", Cond.methodLink RX2 81 yX2_joinNode, Cond.instanceMethod yX2_joinNode, Cond.selects RX2 yX2_joinNode yX2_joinNode, Cond.code yX2_joinNode cX2_joinNode 5 none, Cond.fieldLink RX2 25 "MajorityIndex$Tree" "size" "[I", Cond.fieldLink RX2 34 "MajorityIndex$Tree" "value" "[I", Cond.fieldLink RX2 37 "MajorityIndex$Tree" "number" "[I", Cond.fieldLink RX2 91 "MajorityIndex$Votes" "lost" "I", Cond.fieldLink RX2 28 "MajorityIndex$Tree" "lossOf" "[I"]
def wsX4_set_r4 : List Cond := [Cond.methodLink RX2 88 yX3_cancel, Cond.instanceMethod yX3_cancel, Cond.selects RX3 yX3_cancel yX3_cancel, Cond.code yX3_cancel cX3_cancel 4 none, Cond.methodLink RX3 32 yX3_order, Cond.instanceMethod yX3_order, Cond.selects RX3 yX3_order yX3_order, Cond.code yX3_order cX3_order 3 none, Cond.methodLink RX3 35 yX3_isAhead, Cond.instanceMethod yX3_isAhead, Cond.selects RX3 yX3_isAhead yX3_isAhead, Cond.code yX3_isAhead cX3_isAhead 3 (some .boolean), Cond.methodLink RX3 39 yX3_exchange, Cond.instanceMethod yX3_exchange, Cond.selects RX3 yX3_exchange yX3_exchange, Cond.code yX3_exchange cX3_exchange 5 none, Cond.methodLink RX2 64 yX2_isJoined, Cond.instanceMethod yX2_isJoined, Cond.selects RX2 yX2_isJoined yX2_isJoined, Cond.code yX2_isJoined cX2_isJoined 4 (some .boolean), Cond.fieldLink RX2 94 "MajorityIndex$Votes" "size" "I", Cond.fieldLink RX2 96 "MajorityIndex$Votes" "value" "[I", Cond.fieldLink RX2 97 "MajorityIndex$Votes" "number" "[I", Cond.methodLink RX2 68 yX2_keepJoined]
def wsX4_set_r5 : List Cond := [Cond.instanceMethod yX2_keepJoined, Cond.selects RX2 yX2_keepJoined yX2_keepJoined, Cond.code yX2_keepJoined cX2_keepJoined 4 none, Cond.methodLink RX2 98 Lib.Math.min.name, Cond.static Lib.Math.min.name, Cond.initialized "java/lang/Math", Cond.code Lib.Math.min.name Lib.Math.min.code 2 (some .int), Cond.fieldLink RX2 31 "MajorityIndex$Tree" "lessBy" "[I", Cond.fieldLink RX2 104 "MajorityIndex$Votes" "lessBy" "I", Cond.methodLink RX4 75 yX4_overwrite, Cond.instanceMethod yX4_overwrite, Cond.selects RX4 yX4_overwrite yX4_overwrite, Cond.code yX4_overwrite cX4_overwrite 6 (some .int), Cond.fieldLink RX4 110 "MajorityIndex$Row" "cell" "[I"]
def wsX4_set : List Cond := .code yX4_set cX4_set 3 (some .int) :: ((wsX4_set_r1 ++ (wsX4_set_r2 ++ (wsX4_set_r3 ++ (wsX4_set_r4 ++ wsX4_set_r5)))) ++ wsX40 ++ wsX00 ++ wsX20 ++ wsX30)
def wsX4_fill_r1 : List Cond := [Cond.fieldLink RX4 12 "MajorityIndex" "row" "LMajorityIndex$Row;", Cond.methodLink RX4 79 yX0_hasRange, Cond.instanceMethod yX0_hasRange, Cond.selects RX0 yX0_hasRange yX0_hasRange, Cond.initialized RX0, Cond.code yX0_hasRange cX0_hasRange 3 (some .boolean), Cond.fieldLink RX0 15 "MajorityIndex$Row" "length" "I", Cond.methodLink RX4 68 yX4_isValue, Cond.static yX4_isValue, Cond.initialized RX4, Cond.code yX4_isValue cX4_isValue 1 (some .boolean), Cond.methodLink RX4 71 yX4_laidTree, Cond.instanceMethod yX4_laidTree, Cond.selects RX4 yX4_laidTree yX4_laidTree, Cond.code yX4_laidTree cX4_laidTree 1 (some (.object "MajorityIndex$Tree")), Cond.fieldLink RX4 53 "MajorityIndex" "treeIsOld" "Z", Cond.fieldLink RX4 21 "MajorityIndex" "tree" "LMajorityIndex$Tree;", Cond.fieldLink RX4 49 "MajorityIndex" "slotsNow" "I", Cond.fieldLink RX4 204 "MajorityIndex$Tree" "slotsHere" "I", Cond.fieldLink RX4 57 "MajorityIndex$Row" "length" "I", Cond.methodLink RX4 259 yX2_layRanges, Cond.instanceMethod yX2_layRanges, Cond.selects RX2 yX2_layRanges yX2_layRanges, Cond.initialized RX2]
def wsX4_fill_r2 : List Cond := [Cond.code yX2_layRanges cX2_layRanges 2 none, Cond.fieldLink RX2 40 "MajorityIndex$Tree" "row" "LMajorityIndex$Row;", Cond.fieldLink RX2 44 "MajorityIndex$Row" "length" "I", Cond.fieldLink RX2 50 "MajorityIndex$Tree" "nodes" "I", Cond.fieldLink RX2 18 "MajorityIndex$Tree" "from" "[I", Cond.fieldLink RX2 22 "MajorityIndex$Tree" "to" "[I", Cond.methodLink RX2 53 yX2_layBelow, Cond.instanceMethod yX2_layBelow, Cond.selects RX2 yX2_layBelow yX2_layBelow, Cond.code yX2_layBelow cX2_layBelow 4 none, Cond.methodLink RX2 57 yX2_rightBelow, Cond.instanceMethod yX2_rightBelow, Cond.selects RX2 yX2_rightBelow yX2_rightBelow, Cond.code yX2_rightBelow cX2_rightBelow 3 (some .int), Cond.methodLink RX4 87 yX2_renew, Cond.instanceMethod yX2_renew, Cond.selects RX2 yX2_renew yX2_renew, Cond.code yX2_renew cX2_renew 5 (some .int), Cond.methodLink RX2 61 yX2_putTogether, Cond.instanceMethod yX2_putTogether, Cond.selects RX2 yX2_putTogether yX2_putTogether, Cond.code yX2_putTogether cX2_putTogether 2 none, Cond.fieldLink RX2 12 "MajorityIndex$Tree" "joined" "LMajorityIndex$Votes;", Cond.fieldLink RX2 74 "MajorityIndex$Row" "cell" "[I"]
def wsX4_fill_r3 : List Cond := [Cond.fieldLink RX2 85 "MajorityIndex$Tree" "slotsHere" "I", Cond.methodLink RX2 71 yX3_clear, Cond.instanceMethod yX3_clear, Cond.selects RX3 yX3_clear yX3_clear, Cond.initialized RX3, Cond.code yX3_clear cX3_clear 1 none, Cond.fieldLink RX3 18 "MajorityIndex$Votes" "size" "I", Cond.fieldLink RX3 22 "MajorityIndex$Votes" "lost" "I", Cond.fieldLink RX3 25 "MajorityIndex$Votes" "lessBy" "I", Cond.methodLink RX2 77 yX3_add, Cond.instanceMethod yX3_add, Cond.selects RX3 yX3_add yX3_add, Cond.code yX3_add cX3_add 4 none, Cond.fieldLink RX3 9 "MajorityIndex$Votes" "value" "[I", Cond.fieldLink RX3 15 "MajorityIndex$Votes" "number" "[I", Cond.methodLink RX2 81 yX2_joinNode, Cond.instanceMethod yX2_joinNode, Cond.selects RX2 yX2_joinNode yX2_joinNode, Cond.code yX2_joinNode cX2_joinNode 5 none, Cond.fieldLink RX2 25 "MajorityIndex$Tree" "size" "[I", Cond.fieldLink RX2 34 "MajorityIndex$Tree" "value" "[I", Cond.fieldLink RX2 37 "MajorityIndex$Tree" "number" "[I", Cond.fieldLink RX2 91 "MajorityIndex$Votes" "lost" "I", Cond.fieldLink RX2 28 "MajorityIndex$Tree" "lossOf" "[I"]
def wsX4_fill_r4 : List Cond := [Cond.methodLink RX2 88 yX3_cancel, Cond.instanceMethod yX3_cancel, Cond.selects RX3 yX3_cancel yX3_cancel, Cond.code yX3_cancel cX3_cancel 4 none, Cond.methodLink RX3 32 yX3_order, Cond.instanceMethod yX3_order, Cond.selects RX3 yX3_order yX3_order, Cond.code yX3_order cX3_order 3 none, Cond.methodLink RX3 35 yX3_isAhead, Cond.instanceMethod yX3_isAhead, Cond.selects RX3 yX3_isAhead yX3_isAhead, Cond.code yX3_isAhead cX3_isAhead 3 (some .boolean), Cond.methodLink RX3 39 yX3_exchange, Cond.instanceMethod yX3_exchange, Cond.selects RX3 yX3_exchange yX3_exchange, Cond.code yX3_exchange cX3_exchange 5 none, Cond.methodLink RX2 64 yX2_isJoined, Cond.instanceMethod yX2_isJoined, Cond.selects RX2 yX2_isJoined yX2_isJoined, Cond.code yX2_isJoined cX2_isJoined 4 (some .boolean), Cond.fieldLink RX2 94 "MajorityIndex$Votes" "size" "I", Cond.fieldLink RX2 96 "MajorityIndex$Votes" "value" "[I", Cond.fieldLink RX2 97 "MajorityIndex$Votes" "number" "[I", Cond.methodLink RX2 68 yX2_keepJoined]
def wsX4_fill_r5 : List Cond := [Cond.instanceMethod yX2_keepJoined, Cond.selects RX2 yX2_keepJoined yX2_keepJoined, Cond.code yX2_keepJoined cX2_keepJoined 4 none, Cond.methodLink RX2 98 Lib.Math.min.name, Cond.static Lib.Math.min.name, Cond.initialized "java/lang/Math", Cond.code Lib.Math.min.name Lib.Math.min.code 2 (some .int), Cond.fieldLink RX2 31 "MajorityIndex$Tree" "lessBy" "[I", Cond.fieldLink RX2 104 "MajorityIndex$Votes" "lessBy" "I", Cond.methodLink RX4 75 yX4_overwrite, Cond.instanceMethod yX4_overwrite, Cond.selects RX4 yX4_overwrite yX4_overwrite, Cond.code yX4_overwrite cX4_overwrite 6 (some .int), Cond.fieldLink RX4 110 "MajorityIndex$Row" "cell" "[I"]
def wsX4_fill : List Cond := .code yX4_fill cX4_fill 4 (some .int) :: ((wsX4_fill_r1 ++ (wsX4_fill_r2 ++ (wsX4_fill_r3 ++ (wsX4_fill_r4 ++ wsX4_fill_r5)))) ++ wsX40 ++ wsX00 ++ wsX20 ++ wsX30)
def wsX4_turn_r1 : List Cond := [Cond.fieldLink RX4 12 "MajorityIndex" "row" "LMajorityIndex$Row;", Cond.methodLink RX4 79 yX0_hasRange, Cond.instanceMethod yX0_hasRange, Cond.selects RX0 yX0_hasRange yX0_hasRange, Cond.initialized RX0, Cond.code yX0_hasRange cX0_hasRange 3 (some .boolean), Cond.fieldLink RX0 15 "MajorityIndex$Row" "length" "I", Cond.methodLink RX4 71 yX4_laidTree, Cond.instanceMethod yX4_laidTree, Cond.selects RX4 yX4_laidTree yX4_laidTree, Cond.initialized RX4, Cond.code yX4_laidTree cX4_laidTree 1 (some (.object "MajorityIndex$Tree")), Cond.fieldLink RX4 53 "MajorityIndex" "treeIsOld" "Z", Cond.fieldLink RX4 21 "MajorityIndex" "tree" "LMajorityIndex$Tree;", Cond.fieldLink RX4 49 "MajorityIndex" "slotsNow" "I", Cond.fieldLink RX4 204 "MajorityIndex$Tree" "slotsHere" "I", Cond.fieldLink RX4 57 "MajorityIndex$Row" "length" "I", Cond.methodLink RX4 259 yX2_layRanges, Cond.instanceMethod yX2_layRanges, Cond.selects RX2 yX2_layRanges yX2_layRanges, Cond.initialized RX2, Cond.code yX2_layRanges cX2_layRanges 2 none, Cond.fieldLink RX2 40 "MajorityIndex$Tree" "row" "LMajorityIndex$Row;", Cond.fieldLink RX2 44 "MajorityIndex$Row" "length" "I"]
def wsX4_turn_r2 : List Cond := [Cond.fieldLink RX2 50 "MajorityIndex$Tree" "nodes" "I", Cond.fieldLink RX2 18 "MajorityIndex$Tree" "from" "[I", Cond.fieldLink RX2 22 "MajorityIndex$Tree" "to" "[I", Cond.methodLink RX2 53 yX2_layBelow, Cond.instanceMethod yX2_layBelow, Cond.selects RX2 yX2_layBelow yX2_layBelow, Cond.code yX2_layBelow cX2_layBelow 4 none, Cond.methodLink RX2 57 yX2_rightBelow, Cond.instanceMethod yX2_rightBelow, Cond.selects RX2 yX2_rightBelow yX2_rightBelow, Cond.code yX2_rightBelow cX2_rightBelow 3 (some .int), Cond.methodLink RX4 87 yX2_renew, Cond.instanceMethod yX2_renew, Cond.selects RX2 yX2_renew yX2_renew, Cond.code yX2_renew cX2_renew 5 (some .int), Cond.methodLink RX2 61 yX2_putTogether, Cond.instanceMethod yX2_putTogether, Cond.selects RX2 yX2_putTogether yX2_putTogether, Cond.code yX2_putTogether cX2_putTogether 2 none, Cond.fieldLink RX2 12 "MajorityIndex$Tree" "joined" "LMajorityIndex$Votes;", Cond.fieldLink RX2 74 "MajorityIndex$Row" "cell" "[I", Cond.fieldLink RX2 85 "MajorityIndex$Tree" "slotsHere" "I", Cond.methodLink RX2 71 yX3_clear, Cond.instanceMethod yX3_clear]
def wsX4_turn_r3 : List Cond := [Cond.selects RX3 yX3_clear yX3_clear, Cond.initialized RX3, Cond.code yX3_clear cX3_clear 1 none, Cond.fieldLink RX3 18 "MajorityIndex$Votes" "size" "I", Cond.fieldLink RX3 22 "MajorityIndex$Votes" "lost" "I", Cond.fieldLink RX3 25 "MajorityIndex$Votes" "lessBy" "I", Cond.methodLink RX2 77 yX3_add, Cond.instanceMethod yX3_add, Cond.selects RX3 yX3_add yX3_add, Cond.code yX3_add cX3_add 4 none, Cond.fieldLink RX3 9 "MajorityIndex$Votes" "value" "[I", Cond.fieldLink RX3 15 "MajorityIndex$Votes" "number" "[I", Cond.methodLink RX2 81 yX2_joinNode, Cond.instanceMethod yX2_joinNode, Cond.selects RX2 yX2_joinNode yX2_joinNode, Cond.code yX2_joinNode cX2_joinNode 5 none, Cond.fieldLink RX2 25 "MajorityIndex$Tree" "size" "[I", Cond.fieldLink RX2 34 "MajorityIndex$Tree" "value" "[I", Cond.fieldLink RX2 37 "MajorityIndex$Tree" "number" "[I", Cond.fieldLink RX2 91 "MajorityIndex$Votes" "lost" "I", Cond.fieldLink RX2 28 "MajorityIndex$Tree" "lossOf" "[I", Cond.methodLink RX2 88 yX3_cancel, Cond.instanceMethod yX3_cancel, Cond.selects RX3 yX3_cancel yX3_cancel]
def wsX4_turn_r4 : List Cond := [Cond.code yX3_cancel cX3_cancel 4 none, Cond.methodLink RX3 32 yX3_order, Cond.instanceMethod yX3_order, Cond.selects RX3 yX3_order yX3_order, Cond.code yX3_order cX3_order 3 none, Cond.methodLink RX3 35 yX3_isAhead, Cond.instanceMethod yX3_isAhead, Cond.selects RX3 yX3_isAhead yX3_isAhead, Cond.code yX3_isAhead cX3_isAhead 3 (some .boolean), Cond.methodLink RX3 39 yX3_exchange, Cond.instanceMethod yX3_exchange, Cond.selects RX3 yX3_exchange yX3_exchange, Cond.code yX3_exchange cX3_exchange 5 none, Cond.methodLink RX2 64 yX2_isJoined, Cond.instanceMethod yX2_isJoined, Cond.selects RX2 yX2_isJoined yX2_isJoined, Cond.code yX2_isJoined cX2_isJoined 4 (some .boolean), Cond.fieldLink RX2 94 "MajorityIndex$Votes" "size" "I", Cond.fieldLink RX2 96 "MajorityIndex$Votes" "value" "[I", Cond.fieldLink RX2 97 "MajorityIndex$Votes" "number" "[I", Cond.methodLink RX2 68 yX2_keepJoined, Cond.instanceMethod yX2_keepJoined, Cond.selects RX2 yX2_keepJoined yX2_keepJoined, Cond.code yX2_keepJoined cX2_keepJoined 4 none]
def wsX4_turn_r5 : List Cond := [Cond.methodLink RX2 98 Lib.Math.min.name, Cond.static Lib.Math.min.name, Cond.initialized "java/lang/Math", Cond.code Lib.Math.min.name Lib.Math.min.code 2 (some .int), Cond.fieldLink RX2 31 "MajorityIndex$Tree" "lessBy" "[I", Cond.fieldLink RX2 104 "MajorityIndex$Votes" "lessBy" "I", Cond.methodLink RX4 83 yX0_exchange, Cond.instanceMethod yX0_exchange, Cond.selects RX0 yX0_exchange yX0_exchange, Cond.code yX0_exchange cX0_exchange 4 none, Cond.fieldLink RX0 9 "MajorityIndex$Row" "cell" "[I"]
def wsX4_turn : List Cond := .code yX4_turn cX4_turn 6 (some .int) :: ((wsX4_turn_r1 ++ (wsX4_turn_r2 ++ (wsX4_turn_r3 ++ (wsX4_turn_r4 ++ wsX4_turn_r5)))) ++ wsX40 ++ wsX00 ++ wsX20 ++ wsX30)
def wsX4_swap_r1 : List Cond := [Cond.fieldLink RX4 12 "MajorityIndex" "row" "LMajorityIndex$Row;", Cond.methodLink RX4 91 Lib.Math.min.name, Cond.static Lib.Math.min.name, Cond.initialized "java/lang/Math", Cond.code Lib.Math.min.name Lib.Math.min.code 2 (some .int), Cond.methodLink RX4 96 Lib.Math.max.name, Cond.static Lib.Math.max.name, Cond.code Lib.Math.max.name Lib.Math.max.code 2 (some .int), Cond.methodLink RX4 64 yX0_hasPlace, Cond.instanceMethod yX0_hasPlace, Cond.selects RX0 yX0_hasPlace yX0_hasPlace, Cond.initialized RX0, Cond.code yX0_hasPlace cX0_hasPlace 2 (some .boolean), Cond.fieldLink RX0 15 "MajorityIndex$Row" "length" "I", Cond.methodLink RX4 71 yX4_laidTree, Cond.instanceMethod yX4_laidTree, Cond.selects RX4 yX4_laidTree yX4_laidTree, Cond.initialized RX4, Cond.code yX4_laidTree cX4_laidTree 1 (some (.object "MajorityIndex$Tree")), Cond.fieldLink RX4 53 "MajorityIndex" "treeIsOld" "Z", Cond.fieldLink RX4 21 "MajorityIndex" "tree" "LMajorityIndex$Tree;", Cond.fieldLink RX4 49 "MajorityIndex" "slotsNow" "I", Cond.fieldLink RX4 204 "MajorityIndex$Tree" "slotsHere" "I", Cond.fieldLink RX4 57 "MajorityIndex$Row" "length" "I"]
def wsX4_swap_r2 : List Cond := [Cond.methodLink RX4 259 yX2_layRanges, Cond.instanceMethod yX2_layRanges, Cond.selects RX2 yX2_layRanges yX2_layRanges, Cond.initialized RX2, Cond.code yX2_layRanges cX2_layRanges 2 none, Cond.fieldLink RX2 40 "MajorityIndex$Tree" "row" "LMajorityIndex$Row;", Cond.fieldLink RX2 44 "MajorityIndex$Row" "length" "I", Cond.fieldLink RX2 50 "MajorityIndex$Tree" "nodes" "I", Cond.fieldLink RX2 18 "MajorityIndex$Tree" "from" "[I", Cond.fieldLink RX2 22 "MajorityIndex$Tree" "to" "[I", Cond.methodLink RX2 53 yX2_layBelow, Cond.instanceMethod yX2_layBelow, Cond.selects RX2 yX2_layBelow yX2_layBelow, Cond.code yX2_layBelow cX2_layBelow 4 none, Cond.methodLink RX2 57 yX2_rightBelow, Cond.instanceMethod yX2_rightBelow, Cond.selects RX2 yX2_rightBelow yX2_rightBelow, Cond.code yX2_rightBelow cX2_rightBelow 3 (some .int), Cond.methodLink RX4 87 yX2_renew, Cond.instanceMethod yX2_renew, Cond.selects RX2 yX2_renew yX2_renew, Cond.code yX2_renew cX2_renew 5 (some .int), Cond.methodLink RX2 61 yX2_putTogether, Cond.instanceMethod yX2_putTogether]
def wsX4_swap_r3 : List Cond := [Cond.selects RX2 yX2_putTogether yX2_putTogether, Cond.code yX2_putTogether cX2_putTogether 2 none, Cond.fieldLink RX2 12 "MajorityIndex$Tree" "joined" "LMajorityIndex$Votes;", Cond.fieldLink RX2 74 "MajorityIndex$Row" "cell" "[I", Cond.fieldLink RX2 85 "MajorityIndex$Tree" "slotsHere" "I", Cond.methodLink RX2 71 yX3_clear, Cond.instanceMethod yX3_clear, Cond.selects RX3 yX3_clear yX3_clear, Cond.initialized RX3, Cond.code yX3_clear cX3_clear 1 none, Cond.fieldLink RX3 18 "MajorityIndex$Votes" "size" "I", Cond.fieldLink RX3 22 "MajorityIndex$Votes" "lost" "I", Cond.fieldLink RX3 25 "MajorityIndex$Votes" "lessBy" "I", Cond.methodLink RX2 77 yX3_add, Cond.instanceMethod yX3_add, Cond.selects RX3 yX3_add yX3_add, Cond.code yX3_add cX3_add 4 none, Cond.fieldLink RX3 9 "MajorityIndex$Votes" "value" "[I", Cond.fieldLink RX3 15 "MajorityIndex$Votes" "number" "[I", Cond.methodLink RX2 81 yX2_joinNode, Cond.instanceMethod yX2_joinNode, Cond.selects RX2 yX2_joinNode yX2_joinNode, Cond.code yX2_joinNode cX2_joinNode 5 none, Cond.fieldLink RX2 25 "MajorityIndex$Tree" "size" "[I"]
def wsX4_swap_r4 : List Cond := [Cond.fieldLink RX2 34 "MajorityIndex$Tree" "value" "[I", Cond.fieldLink RX2 37 "MajorityIndex$Tree" "number" "[I", Cond.fieldLink RX2 91 "MajorityIndex$Votes" "lost" "I", Cond.fieldLink RX2 28 "MajorityIndex$Tree" "lossOf" "[I", Cond.methodLink RX2 88 yX3_cancel, Cond.instanceMethod yX3_cancel, Cond.selects RX3 yX3_cancel yX3_cancel, Cond.code yX3_cancel cX3_cancel 4 none, Cond.methodLink RX3 32 yX3_order, Cond.instanceMethod yX3_order, Cond.selects RX3 yX3_order yX3_order, Cond.code yX3_order cX3_order 3 none, Cond.methodLink RX3 35 yX3_isAhead, Cond.instanceMethod yX3_isAhead, Cond.selects RX3 yX3_isAhead yX3_isAhead, Cond.code yX3_isAhead cX3_isAhead 3 (some .boolean), Cond.methodLink RX3 39 yX3_exchange, Cond.instanceMethod yX3_exchange, Cond.selects RX3 yX3_exchange yX3_exchange, Cond.code yX3_exchange cX3_exchange 5 none, Cond.methodLink RX2 64 yX2_isJoined, Cond.instanceMethod yX2_isJoined, Cond.selects RX2 yX2_isJoined yX2_isJoined, Cond.code yX2_isJoined cX2_isJoined 4 (some .boolean)]
def wsX4_swap_r5 : List Cond := [Cond.fieldLink RX2 94 "MajorityIndex$Votes" "size" "I", Cond.fieldLink RX2 96 "MajorityIndex$Votes" "value" "[I", Cond.fieldLink RX2 97 "MajorityIndex$Votes" "number" "[I", Cond.methodLink RX2 68 yX2_keepJoined, Cond.instanceMethod yX2_keepJoined, Cond.selects RX2 yX2_keepJoined yX2_keepJoined, Cond.code yX2_keepJoined cX2_keepJoined 4 none, Cond.methodLink RX2 98 Lib.Math.min.name, Cond.fieldLink RX2 31 "MajorityIndex$Tree" "lessBy" "[I", Cond.fieldLink RX2 104 "MajorityIndex$Votes" "lessBy" "I", Cond.methodLink RX4 83 yX0_exchange, Cond.instanceMethod yX0_exchange, Cond.selects RX0 yX0_exchange yX0_exchange, Cond.code yX0_exchange cX0_exchange 4 none, Cond.fieldLink RX0 9 "MajorityIndex$Row" "cell" "[I"]
def wsX4_swap : List Cond := .code yX4_swap cX4_swap 4 (some .int) :: ((wsX4_swap_r1 ++ (wsX4_swap_r2 ++ (wsX4_swap_r3 ++ (wsX4_swap_r4 ++ wsX4_swap_r5)))) ++ wsX40 ++ wsX00 ++ wsX20 ++ wsX30)
def wsX4_heavyValues : List Cond := .code yX4_heavyValues cX4_heavyValues 8 (some .int) :: ([.fieldLink RX4 12 "MajorityIndex" "row" "LMajorityIndex$Row;", .fieldLink RX4 110 "MajorityIndex$Row" "cell" "[I", .methodLink RX4 113 yX0_oftenIn, .instanceMethod yX0_oftenIn, .selects RX0 yX0_oftenIn yX0_oftenIn, .initialized RX0, .code yX0_oftenIn cX0_oftenIn 6 (some .int), .fieldLink RX0 9 "MajorityIndex$Row" "cell" "[I", .methodLink RX4 273 yX4_isHeavy, .static yX4_isHeavy, .initialized RX4, .code yX4_isHeavy cX4_isHeavy 4 (some .boolean)] ++ wsX40 ++ wsX00)
def wsX4_heavyVotesBy_r1 : List Cond := [Cond.fieldLink RX4 204 "MajorityIndex$Tree" "slotsHere" "I", Cond.fieldLink RX4 35 "MajorityIndex" "votes" "LMajorityIndex$Votes;", Cond.fieldLink RX4 174 "MajorityIndex$Votes" "size" "I", Cond.fieldLink RX4 12 "MajorityIndex" "row" "LMajorityIndex$Row;", Cond.fieldLink RX4 133 "MajorityIndex$Votes" "value" "[I", Cond.methodLink RX4 87 yX2_renew, Cond.instanceMethod yX2_renew, Cond.selects RX2 yX2_renew yX2_renew, Cond.initialized RX2, Cond.code yX2_renew cX2_renew 5 (some .int), Cond.fieldLink RX2 50 "MajorityIndex$Tree" "nodes" "I", Cond.fieldLink RX2 18 "MajorityIndex$Tree" "from" "[I", Cond.fieldLink RX2 22 "MajorityIndex$Tree" "to" "[I", Cond.methodLink RX2 61 yX2_putTogether, Cond.instanceMethod yX2_putTogether, Cond.selects RX2 yX2_putTogether yX2_putTogether, Cond.code yX2_putTogether cX2_putTogether 2 none, Cond.fieldLink RX2 12 "MajorityIndex$Tree" "joined" "LMajorityIndex$Votes;", Cond.fieldLink RX2 40 "MajorityIndex$Tree" "row" "LMajorityIndex$Row;", Cond.fieldLink RX2 74 "MajorityIndex$Row" "cell" "[I", Cond.fieldLink RX2 85 "MajorityIndex$Tree" "slotsHere" "I", Cond.methodLink RX2 71 yX3_clear, Cond.instanceMethod yX3_clear, Cond.selects RX3 yX3_clear yX3_clear]
def wsX4_heavyVotesBy_r2 : List Cond := [Cond.initialized RX3, Cond.code yX3_clear cX3_clear 1 none, Cond.fieldLink RX3 18 "MajorityIndex$Votes" "size" "I", Cond.fieldLink RX3 22 "MajorityIndex$Votes" "lost" "I", Cond.fieldLink RX3 25 "MajorityIndex$Votes" "lessBy" "I", Cond.methodLink RX2 77 yX3_add, Cond.instanceMethod yX3_add, Cond.selects RX3 yX3_add yX3_add, Cond.code yX3_add cX3_add 4 none, Cond.fieldLink RX3 9 "MajorityIndex$Votes" "value" "[I", Cond.fieldLink RX3 15 "MajorityIndex$Votes" "number" "[I", Cond.methodLink RX2 81 yX2_joinNode, Cond.instanceMethod yX2_joinNode, Cond.selects RX2 yX2_joinNode yX2_joinNode, Cond.code yX2_joinNode cX2_joinNode 5 none, Cond.fieldLink RX2 25 "MajorityIndex$Tree" "size" "[I", Cond.fieldLink RX2 34 "MajorityIndex$Tree" "value" "[I", Cond.fieldLink RX2 37 "MajorityIndex$Tree" "number" "[I", Cond.fieldLink RX2 91 "MajorityIndex$Votes" "lost" "I", Cond.fieldLink RX2 28 "MajorityIndex$Tree" "lossOf" "[I", Cond.methodLink RX2 57 yX2_rightBelow, Cond.instanceMethod yX2_rightBelow, Cond.selects RX2 yX2_rightBelow yX2_rightBelow, Cond.code yX2_rightBelow cX2_rightBelow 3 (some .int)]
def wsX4_heavyVotesBy_r3 : List Cond := [Cond.methodLink RX2 88 yX3_cancel, Cond.instanceMethod yX3_cancel, Cond.selects RX3 yX3_cancel yX3_cancel, Cond.code yX3_cancel cX3_cancel 4 none, Cond.methodLink RX3 32 yX3_order, Cond.instanceMethod yX3_order, Cond.selects RX3 yX3_order yX3_order, Cond.code yX3_order cX3_order 3 none, Cond.methodLink RX3 35 yX3_isAhead, Cond.instanceMethod yX3_isAhead, Cond.selects RX3 yX3_isAhead yX3_isAhead, Cond.code yX3_isAhead cX3_isAhead 3 (some .boolean), Cond.methodLink RX3 39 yX3_exchange, Cond.instanceMethod yX3_exchange, Cond.selects RX3 yX3_exchange yX3_exchange, Cond.code yX3_exchange cX3_exchange 5 none, Cond.methodLink RX2 64 yX2_isJoined, Cond.instanceMethod yX2_isJoined, Cond.selects RX2 yX2_isJoined yX2_isJoined, Cond.code yX2_isJoined cX2_isJoined 4 (some .boolean), Cond.fieldLink RX2 94 "MajorityIndex$Votes" "size" "I", Cond.fieldLink RX2 96 "MajorityIndex$Votes" "value" "[I", Cond.fieldLink RX2 97 "MajorityIndex$Votes" "number" "[I", Cond.methodLink RX2 68 yX2_keepJoined]
def wsX4_heavyVotesBy_r4 : List Cond := [Cond.instanceMethod yX2_keepJoined, Cond.selects RX2 yX2_keepJoined yX2_keepJoined, Cond.code yX2_keepJoined cX2_keepJoined 4 none, Cond.methodLink RX2 98 Lib.Math.min.name, Cond.static Lib.Math.min.name, Cond.initialized "java/lang/Math", Cond.code Lib.Math.min.name Lib.Math.min.code 2 (some .int), Cond.fieldLink RX2 31 "MajorityIndex$Tree" "lessBy" "[I", Cond.fieldLink RX2 104 "MajorityIndex$Votes" "lessBy" "I", Cond.methodLink RX4 170 yX2_gather, Cond.instanceMethod yX2_gather, Cond.selects RX2 yX2_gather yX2_gather, Cond.code yX2_gather cX2_gather 6 none, Cond.methodLink RX2 106 yX2_isPart, Cond.instanceMethod yX2_isPart, Cond.selects RX2 yX2_isPart yX2_isPart, Cond.code yX2_isPart cX2_isPart 4 (some .boolean), Cond.methodLink RX4 113 yX0_oftenIn, Cond.instanceMethod yX0_oftenIn, Cond.selects RX0 yX0_oftenIn yX0_oftenIn, Cond.initialized RX0, Cond.code yX0_oftenIn cX0_oftenIn 6 (some .int), Cond.fieldLink RX0 9 "MajorityIndex$Row" "cell" "[I", Cond.methodLink RX4 273 yX4_isHeavy]
def wsX4_heavyVotesBy_r5 : List Cond := [Cond.static yX4_isHeavy, Cond.initialized RX4, Cond.code yX4_isHeavy cX4_isHeavy 4 (some .boolean)]
def wsX4_heavyVotesBy : List Cond := .code yX4_heavyVotesBy cX4_heavyVotesBy 9 (some .int) :: ((wsX4_heavyVotesBy_r1 ++ (wsX4_heavyVotesBy_r2 ++ (wsX4_heavyVotesBy_r3 ++ (wsX4_heavyVotesBy_r4 ++ wsX4_heavyVotesBy_r5)))) ++ wsX20 ++ wsX40 ++ wsX30 ++ wsX00)
def wsX4_least_r1 : List Cond := [Cond.fieldLink RX4 12 "MajorityIndex" "row" "LMajorityIndex$Row;", Cond.fieldLink RX4 49 "MajorityIndex" "slotsNow" "I", Cond.fieldLink RX4 204 "MajorityIndex$Tree" "slotsHere" "I", Cond.methodLink RX4 79 yX0_hasRange, Cond.instanceMethod yX0_hasRange, Cond.selects RX0 yX0_hasRange yX0_hasRange, Cond.initialized RX0, Cond.code yX0_hasRange cX0_hasRange 3 (some .boolean), Cond.fieldLink RX0 15 "MajorityIndex$Row" "length" "I", Cond.methodLink RX4 186 yX4_isShare, Cond.static yX4_isShare, Cond.initialized RX4, Cond.code yX4_isShare cX4_isShare 2 (some .boolean), Cond.methodLink RX4 196 yX4_heavyValues, Cond.instanceMethod yX4_heavyValues, Cond.selects RX4 yX4_heavyValues yX4_heavyValues, Cond.code yX4_heavyValues cX4_heavyValues 8 (some .int), Cond.fieldLink RX4 110 "MajorityIndex$Row" "cell" "[I", Cond.methodLink RX4 113 yX0_oftenIn, Cond.instanceMethod yX0_oftenIn, Cond.selects RX0 yX0_oftenIn yX0_oftenIn, Cond.code yX0_oftenIn cX0_oftenIn 6 (some .int), Cond.fieldLink RX0 9 "MajorityIndex$Row" "cell" "[I", Cond.methodLink RX4 273 yX4_isHeavy]
def wsX4_least_r2 : List Cond := [Cond.static yX4_isHeavy, Cond.code yX4_isHeavy cX4_isHeavy 4 (some .boolean), Cond.methodLink RX4 71 yX4_laidTree, Cond.instanceMethod yX4_laidTree, Cond.selects RX4 yX4_laidTree yX4_laidTree, Cond.code yX4_laidTree cX4_laidTree 1 (some (.object "MajorityIndex$Tree")), Cond.fieldLink RX4 53 "MajorityIndex" "treeIsOld" "Z", Cond.fieldLink RX4 21 "MajorityIndex" "tree" "LMajorityIndex$Tree;", Cond.fieldLink RX4 57 "MajorityIndex$Row" "length" "I", Cond.methodLink RX4 259 yX2_layRanges, Cond.instanceMethod yX2_layRanges, Cond.selects RX2 yX2_layRanges yX2_layRanges, Cond.initialized RX2, Cond.code yX2_layRanges cX2_layRanges 2 none, Cond.fieldLink RX2 40 "MajorityIndex$Tree" "row" "LMajorityIndex$Row;", Cond.fieldLink RX2 44 "MajorityIndex$Row" "length" "I", Cond.fieldLink RX2 50 "MajorityIndex$Tree" "nodes" "I", Cond.fieldLink RX2 18 "MajorityIndex$Tree" "from" "[I", Cond.fieldLink RX2 22 "MajorityIndex$Tree" "to" "[I", Cond.methodLink RX2 53 yX2_layBelow, Cond.instanceMethod yX2_layBelow, Cond.selects RX2 yX2_layBelow yX2_layBelow, Cond.code yX2_layBelow cX2_layBelow 4 none, Cond.methodLink RX2 57 yX2_rightBelow]
def wsX4_least_r3 : List Cond := [Cond.instanceMethod yX2_rightBelow, Cond.selects RX2 yX2_rightBelow yX2_rightBelow, Cond.code yX2_rightBelow cX2_rightBelow 3 (some .int), Cond.methodLink RX4 87 yX2_renew, Cond.instanceMethod yX2_renew, Cond.selects RX2 yX2_renew yX2_renew, Cond.code yX2_renew cX2_renew 5 (some .int), Cond.methodLink RX2 61 yX2_putTogether, Cond.instanceMethod yX2_putTogether, Cond.selects RX2 yX2_putTogether yX2_putTogether, Cond.code yX2_putTogether cX2_putTogether 2 none, Cond.fieldLink RX2 12 "MajorityIndex$Tree" "joined" "LMajorityIndex$Votes;", Cond.fieldLink RX2 74 "MajorityIndex$Row" "cell" "[I", Cond.fieldLink RX2 85 "MajorityIndex$Tree" "slotsHere" "I", Cond.methodLink RX2 71 yX3_clear, Cond.instanceMethod yX3_clear, Cond.selects RX3 yX3_clear yX3_clear, Cond.initialized RX3, Cond.code yX3_clear cX3_clear 1 none, Cond.fieldLink RX3 18 "MajorityIndex$Votes" "size" "I", Cond.fieldLink RX3 22 "MajorityIndex$Votes" "lost" "I", Cond.fieldLink RX3 25 "MajorityIndex$Votes" "lessBy" "I", Cond.methodLink RX2 77 yX3_add, Cond.instanceMethod yX3_add]
def wsX4_least_r4 : List Cond := [Cond.selects RX3 yX3_add yX3_add, Cond.code yX3_add cX3_add 4 none, Cond.fieldLink RX3 9 "MajorityIndex$Votes" "value" "[I", Cond.fieldLink RX3 15 "MajorityIndex$Votes" "number" "[I", Cond.methodLink RX2 81 yX2_joinNode, Cond.instanceMethod yX2_joinNode, Cond.selects RX2 yX2_joinNode yX2_joinNode, Cond.code yX2_joinNode cX2_joinNode 5 none, Cond.fieldLink RX2 25 "MajorityIndex$Tree" "size" "[I", Cond.fieldLink RX2 34 "MajorityIndex$Tree" "value" "[I", Cond.fieldLink RX2 37 "MajorityIndex$Tree" "number" "[I", Cond.fieldLink RX2 91 "MajorityIndex$Votes" "lost" "I", Cond.fieldLink RX2 28 "MajorityIndex$Tree" "lossOf" "[I", Cond.methodLink RX2 88 yX3_cancel, Cond.instanceMethod yX3_cancel, Cond.selects RX3 yX3_cancel yX3_cancel, Cond.code yX3_cancel cX3_cancel 4 none, Cond.methodLink RX3 32 yX3_order, Cond.instanceMethod yX3_order, Cond.selects RX3 yX3_order yX3_order, Cond.code yX3_order cX3_order 3 none, Cond.methodLink RX3 35 yX3_isAhead, Cond.instanceMethod yX3_isAhead, Cond.selects RX3 yX3_isAhead yX3_isAhead]
def wsX4_least_r5 : List Cond := [Cond.code yX3_isAhead cX3_isAhead 3 (some .boolean), Cond.methodLink RX3 39 yX3_exchange, Cond.instanceMethod yX3_exchange, Cond.selects RX3 yX3_exchange yX3_exchange, Cond.code yX3_exchange cX3_exchange 5 none, Cond.methodLink RX2 64 yX2_isJoined, Cond.instanceMethod yX2_isJoined, Cond.selects RX2 yX2_isJoined yX2_isJoined, Cond.code yX2_isJoined cX2_isJoined 4 (some .boolean), Cond.fieldLink RX2 94 "MajorityIndex$Votes" "size" "I", Cond.fieldLink RX2 96 "MajorityIndex$Votes" "value" "[I", Cond.fieldLink RX2 97 "MajorityIndex$Votes" "number" "[I", Cond.methodLink RX2 68 yX2_keepJoined, Cond.instanceMethod yX2_keepJoined, Cond.selects RX2 yX2_keepJoined yX2_keepJoined, Cond.code yX2_keepJoined cX2_keepJoined 4 none, Cond.methodLink RX2 98 Lib.Math.min.name, Cond.static Lib.Math.min.name, Cond.initialized "java/lang/Math", Cond.code Lib.Math.min.name Lib.Math.min.code 2 (some .int), Cond.fieldLink RX2 31 "MajorityIndex$Tree" "lessBy" "[I", Cond.fieldLink RX2 104 "MajorityIndex$Votes" "lessBy" "I", Cond.methodLink RX4 200 yX4_heavyVotesBy, Cond.instanceMethod yX4_heavyVotesBy]
def wsX4_least_r6 : List Cond := [Cond.selects RX4 yX4_heavyVotesBy yX4_heavyVotesBy, Cond.code yX4_heavyVotesBy cX4_heavyVotesBy 9 (some .int), Cond.fieldLink RX4 35 "MajorityIndex" "votes" "LMajorityIndex$Votes;", Cond.fieldLink RX4 174 "MajorityIndex$Votes" "size" "I", Cond.fieldLink RX4 133 "MajorityIndex$Votes" "value" "[I", Cond.methodLink RX4 170 yX2_gather, Cond.instanceMethod yX2_gather, Cond.selects RX2 yX2_gather yX2_gather, Cond.code yX2_gather cX2_gather 6 none, Cond.methodLink RX2 106 yX2_isPart, Cond.instanceMethod yX2_isPart, Cond.selects RX2 yX2_isPart yX2_isPart, Cond.code yX2_isPart cX2_isPart 4 (some .boolean)]
def wsX4_least : List Cond := .code yX4_least cX4_least 9 (some .int) :: ((wsX4_least_r1 ++ (wsX4_least_r2 ++ (wsX4_least_r3 ++ (wsX4_least_r4 ++ (wsX4_least_r5 ++ wsX4_least_r6))))) ++ wsX40 ++ wsX20 ++ wsX00 ++ wsX30)
def wsX4_refusalOfBoth : List Cond := .code yX4_refusalOfBoth cX4_refusalOfBoth 7 (some .int) :: ([.fieldLink RX4 12 "MajorityIndex" "row" "LMajorityIndex$Row;", .methodLink RX4 79 yX0_hasRange, .instanceMethod yX0_hasRange, .selects RX0 yX0_hasRange yX0_hasRange, .initialized RX0, .code yX0_hasRange cX0_hasRange 3 (some .boolean), .fieldLink RX0 15 "MajorityIndex$Row" "length" "I", .methodLink RX4 186 yX4_isShare, .static yX4_isShare, .initialized RX4, .code yX4_isShare cX4_isShare 2 (some .boolean), .methodLink RX4 189 yX4_isEnough, .instanceMethod yX4_isEnough, .selects RX4 yX4_isEnough yX4_isEnough, .code yX4_isEnough cX4_isEnough 3 (some .boolean), .fieldLink RX4 49 "MajorityIndex" "slotsNow" "I"] ++ wsX40 ++ wsX00)
def wsX4_gatherHeavyOfBoth_r1 : List Cond := [Cond.fieldLink RX4 35 "MajorityIndex" "votes" "LMajorityIndex$Votes;", Cond.methodLink RX4 91 Lib.Math.min.name, Cond.static Lib.Math.min.name, Cond.initialized "java/lang/Math", Cond.code Lib.Math.min.name Lib.Math.min.code 2 (some .int), Cond.fieldLink RX4 39 "MajorityIndex" "otherVotes" "LMajorityIndex$Votes;", Cond.methodLink RX4 96 Lib.Math.max.name, Cond.static Lib.Math.max.name, Cond.code Lib.Math.max.name Lib.Math.max.code 2 (some .int), Cond.fieldLink RX4 49 "MajorityIndex" "slotsNow" "I", Cond.fieldLink RX4 174 "MajorityIndex$Votes" "size" "I", Cond.fieldLink RX4 133 "MajorityIndex$Votes" "value" "[I", Cond.fieldLink RX4 136 "MajorityIndex$Votes" "number" "[I", Cond.fieldLink RX4 12 "MajorityIndex" "row" "LMajorityIndex$Row;", Cond.methodLink RX4 170 yX2_gather, Cond.instanceMethod yX2_gather, Cond.selects RX2 yX2_gather yX2_gather, Cond.initialized RX2, Cond.code yX2_gather cX2_gather 6 none, Cond.fieldLink RX2 50 "MajorityIndex$Tree" "nodes" "I", Cond.fieldLink RX2 22 "MajorityIndex$Tree" "to" "[I", Cond.fieldLink RX2 85 "MajorityIndex$Tree" "slotsHere" "I", Cond.methodLink RX2 71 yX3_clear, Cond.instanceMethod yX3_clear]
def wsX4_gatherHeavyOfBoth_r2 : List Cond := [Cond.selects RX3 yX3_clear yX3_clear, Cond.initialized RX3, Cond.code yX3_clear cX3_clear 1 none, Cond.fieldLink RX3 18 "MajorityIndex$Votes" "size" "I", Cond.fieldLink RX3 22 "MajorityIndex$Votes" "lost" "I", Cond.fieldLink RX3 25 "MajorityIndex$Votes" "lessBy" "I", Cond.methodLink RX2 106 yX2_isPart, Cond.instanceMethod yX2_isPart, Cond.selects RX2 yX2_isPart yX2_isPart, Cond.code yX2_isPart cX2_isPart 4 (some .boolean), Cond.fieldLink RX2 18 "MajorityIndex$Tree" "from" "[I", Cond.methodLink RX2 81 yX2_joinNode, Cond.instanceMethod yX2_joinNode, Cond.selects RX2 yX2_joinNode yX2_joinNode, Cond.code yX2_joinNode cX2_joinNode 5 none, Cond.fieldLink RX2 25 "MajorityIndex$Tree" "size" "[I", Cond.fieldLink RX2 34 "MajorityIndex$Tree" "value" "[I", Cond.fieldLink RX2 37 "MajorityIndex$Tree" "number" "[I", Cond.fieldLink RX2 91 "MajorityIndex$Votes" "lost" "I", Cond.fieldLink RX2 28 "MajorityIndex$Tree" "lossOf" "[I", Cond.methodLink RX2 77 yX3_add, Cond.instanceMethod yX3_add, Cond.selects RX3 yX3_add yX3_add, Cond.code yX3_add cX3_add 4 none]
def wsX4_gatherHeavyOfBoth_r3 : List Cond := [Cond.fieldLink RX3 9 "MajorityIndex$Votes" "value" "[I", Cond.fieldLink RX3 15 "MajorityIndex$Votes" "number" "[I", Cond.methodLink RX2 88 yX3_cancel, Cond.instanceMethod yX3_cancel, Cond.selects RX3 yX3_cancel yX3_cancel, Cond.code yX3_cancel cX3_cancel 4 none, Cond.methodLink RX3 32 yX3_order, Cond.instanceMethod yX3_order, Cond.selects RX3 yX3_order yX3_order, Cond.code yX3_order cX3_order 3 none, Cond.methodLink RX3 35 yX3_isAhead, Cond.instanceMethod yX3_isAhead, Cond.selects RX3 yX3_isAhead yX3_isAhead, Cond.code yX3_isAhead cX3_isAhead 3 (some .boolean), Cond.methodLink RX3 39 yX3_exchange, Cond.instanceMethod yX3_exchange, Cond.selects RX3 yX3_exchange yX3_exchange, Cond.code yX3_exchange cX3_exchange 5 none, Cond.methodLink RX4 266 yX3_join, Cond.instanceMethod yX3_join, Cond.selects RX3 yX3_join yX3_join, Cond.code yX3_join cX3_join 3 none, Cond.methodLink RX3 28 yX3_add, Cond.methodLink RX4 270 yX3_cancel]
def wsX4_gatherHeavyOfBoth_r4 : List Cond := [Cond.methodLink RX4 113 yX0_oftenIn, Cond.instanceMethod yX0_oftenIn, Cond.selects RX0 yX0_oftenIn yX0_oftenIn, Cond.initialized RX0, Cond.code yX0_oftenIn cX0_oftenIn 6 (some .int), Cond.fieldLink RX0 9 "MajorityIndex$Row" "cell" "[I", Cond.methodLink RX4 262 yX3_keepHeavy, Cond.instanceMethod yX3_keepHeavy, Cond.selects RX3 yX3_keepHeavy yX3_keepHeavy, Cond.code yX3_keepHeavy cX3_keepHeavy 6 none, Cond.static yX4_isHeavy, Cond.initialized RX4, Cond.code yX4_isHeavy cX4_isHeavy 4 (some .boolean)]
def wsX4_gatherHeavyOfBoth : List Cond := .code yX4_gatherHeavyOfBoth cX4_gatherHeavyOfBoth 10 none :: ((wsX4_gatherHeavyOfBoth_r1 ++ (wsX4_gatherHeavyOfBoth_r2 ++ (wsX4_gatherHeavyOfBoth_r3 ++ wsX4_gatherHeavyOfBoth_r4))) ++ wsX40 ++ wsX30 ++ wsX20 ++ wsX00)
def wsX4_both_r1 : List Cond := [Cond.fieldLink RX4 35 "MajorityIndex" "votes" "LMajorityIndex$Votes;", Cond.fieldLink RX4 174 "MajorityIndex$Votes" "size" "I", Cond.methodLink RX4 210 yX4_refusalOfBoth, Cond.instanceMethod yX4_refusalOfBoth, Cond.selects RX4 yX4_refusalOfBoth yX4_refusalOfBoth, Cond.initialized RX4, Cond.code yX4_refusalOfBoth cX4_refusalOfBoth 7 (some .int), Cond.fieldLink RX4 12 "MajorityIndex" "row" "LMajorityIndex$Row;", Cond.methodLink RX4 79 yX0_hasRange, Cond.instanceMethod yX0_hasRange, Cond.selects RX0 yX0_hasRange yX0_hasRange, Cond.initialized RX0, Cond.code yX0_hasRange cX0_hasRange 3 (some .boolean), Cond.fieldLink RX0 15 "MajorityIndex$Row" "length" "I", Cond.methodLink RX4 186 yX4_isShare, Cond.static yX4_isShare, Cond.code yX4_isShare cX4_isShare 2 (some .boolean), Cond.methodLink RX4 189 yX4_isEnough, Cond.instanceMethod yX4_isEnough, Cond.selects RX4 yX4_isEnough yX4_isEnough, Cond.code yX4_isEnough cX4_isEnough 3 (some .boolean), Cond.fieldLink RX4 49 "MajorityIndex" "slotsNow" "I", Cond.methodLink RX4 71 yX4_laidTree, Cond.instanceMethod yX4_laidTree]
def wsX4_both_r2 : List Cond := [Cond.selects RX4 yX4_laidTree yX4_laidTree, Cond.code yX4_laidTree cX4_laidTree 1 (some (.object "MajorityIndex$Tree")), Cond.fieldLink RX4 53 "MajorityIndex" "treeIsOld" "Z", Cond.fieldLink RX4 21 "MajorityIndex" "tree" "LMajorityIndex$Tree;", Cond.fieldLink RX4 204 "MajorityIndex$Tree" "slotsHere" "I", Cond.fieldLink RX4 57 "MajorityIndex$Row" "length" "I", Cond.methodLink RX4 259 yX2_layRanges, Cond.instanceMethod yX2_layRanges, Cond.selects RX2 yX2_layRanges yX2_layRanges, Cond.initialized RX2, Cond.code yX2_layRanges cX2_layRanges 2 none, Cond.fieldLink RX2 40 "MajorityIndex$Tree" "row" "LMajorityIndex$Row;", Cond.fieldLink RX2 44 "MajorityIndex$Row" "length" "I", Cond.fieldLink RX2 50 "MajorityIndex$Tree" "nodes" "I", Cond.fieldLink RX2 18 "MajorityIndex$Tree" "from" "[I", Cond.fieldLink RX2 22 "MajorityIndex$Tree" "to" "[I", Cond.methodLink RX2 53 yX2_layBelow, Cond.instanceMethod yX2_layBelow, Cond.selects RX2 yX2_layBelow yX2_layBelow, Cond.code yX2_layBelow cX2_layBelow 4 none, Cond.methodLink RX2 57 yX2_rightBelow, Cond.instanceMethod yX2_rightBelow, Cond.selects RX2 yX2_rightBelow yX2_rightBelow, Cond.code yX2_rightBelow cX2_rightBelow 3 (some .int)]
def wsX4_both_r3 : List Cond := [Cond.methodLink RX4 87 yX2_renew, Cond.instanceMethod yX2_renew, Cond.selects RX2 yX2_renew yX2_renew, Cond.code yX2_renew cX2_renew 5 (some .int), Cond.methodLink RX2 61 yX2_putTogether, Cond.instanceMethod yX2_putTogether, Cond.selects RX2 yX2_putTogether yX2_putTogether, Cond.code yX2_putTogether cX2_putTogether 2 none, Cond.fieldLink RX2 12 "MajorityIndex$Tree" "joined" "LMajorityIndex$Votes;", Cond.fieldLink RX2 74 "MajorityIndex$Row" "cell" "[I", Cond.fieldLink RX2 85 "MajorityIndex$Tree" "slotsHere" "I", Cond.methodLink RX2 71 yX3_clear, Cond.instanceMethod yX3_clear, Cond.selects RX3 yX3_clear yX3_clear, Cond.initialized RX3, Cond.code yX3_clear cX3_clear 1 none, Cond.fieldLink RX3 18 "MajorityIndex$Votes" "size" "I", Cond.fieldLink RX3 22 "MajorityIndex$Votes" "lost" "I", Cond.fieldLink RX3 25 "MajorityIndex$Votes" "lessBy" "I", Cond.methodLink RX2 77 yX3_add, Cond.instanceMethod yX3_add, Cond.selects RX3 yX3_add yX3_add, Cond.code yX3_add cX3_add 4 none, Cond.fieldLink RX3 9 "MajorityIndex$Votes" "value" "[I"]
def wsX4_both_r4 : List Cond := [Cond.fieldLink RX3 15 "MajorityIndex$Votes" "number" "[I", Cond.methodLink RX2 81 yX2_joinNode, Cond.instanceMethod yX2_joinNode, Cond.selects RX2 yX2_joinNode yX2_joinNode, Cond.code yX2_joinNode cX2_joinNode 5 none, Cond.fieldLink RX2 25 "MajorityIndex$Tree" "size" "[I", Cond.fieldLink RX2 34 "MajorityIndex$Tree" "value" "[I", Cond.fieldLink RX2 37 "MajorityIndex$Tree" "number" "[I", Cond.fieldLink RX2 91 "MajorityIndex$Votes" "lost" "I", Cond.fieldLink RX2 28 "MajorityIndex$Tree" "lossOf" "[I", Cond.methodLink RX2 88 yX3_cancel, Cond.instanceMethod yX3_cancel, Cond.selects RX3 yX3_cancel yX3_cancel, Cond.code yX3_cancel cX3_cancel 4 none, Cond.methodLink RX3 32 yX3_order, Cond.instanceMethod yX3_order, Cond.selects RX3 yX3_order yX3_order, Cond.code yX3_order cX3_order 3 none, Cond.methodLink RX3 35 yX3_isAhead, Cond.instanceMethod yX3_isAhead, Cond.selects RX3 yX3_isAhead yX3_isAhead, Cond.code yX3_isAhead cX3_isAhead 3 (some .boolean), Cond.methodLink RX3 39 yX3_exchange, Cond.instanceMethod yX3_exchange]
def wsX4_both_r5 : List Cond := [Cond.selects RX3 yX3_exchange yX3_exchange, Cond.code yX3_exchange cX3_exchange 5 none, Cond.methodLink RX2 64 yX2_isJoined, Cond.instanceMethod yX2_isJoined, Cond.selects RX2 yX2_isJoined yX2_isJoined, Cond.code yX2_isJoined cX2_isJoined 4 (some .boolean), Cond.fieldLink RX2 94 "MajorityIndex$Votes" "size" "I", Cond.fieldLink RX2 96 "MajorityIndex$Votes" "value" "[I", Cond.fieldLink RX2 97 "MajorityIndex$Votes" "number" "[I", Cond.methodLink RX2 68 yX2_keepJoined, Cond.instanceMethod yX2_keepJoined, Cond.selects RX2 yX2_keepJoined yX2_keepJoined, Cond.code yX2_keepJoined cX2_keepJoined 4 none, Cond.methodLink RX2 98 Lib.Math.min.name, Cond.static Lib.Math.min.name, Cond.initialized "java/lang/Math", Cond.code Lib.Math.min.name Lib.Math.min.code 2 (some .int), Cond.fieldLink RX2 31 "MajorityIndex$Tree" "lessBy" "[I", Cond.fieldLink RX2 104 "MajorityIndex$Votes" "lessBy" "I", Cond.methodLink RX4 214 yX4_gatherHeavyOfBoth, Cond.instanceMethod yX4_gatherHeavyOfBoth, Cond.selects RX4 yX4_gatherHeavyOfBoth yX4_gatherHeavyOfBoth, Cond.code yX4_gatherHeavyOfBoth cX4_gatherHeavyOfBoth 10 none, Cond.methodLink RX4 91 Lib.Math.min.name]
def wsX4_both_r6 : List Cond := [Cond.fieldLink RX4 39 "MajorityIndex" "otherVotes" "LMajorityIndex$Votes;", Cond.methodLink RX4 96 Lib.Math.max.name, Cond.static Lib.Math.max.name, Cond.code Lib.Math.max.name Lib.Math.max.code 2 (some .int), Cond.fieldLink RX4 133 "MajorityIndex$Votes" "value" "[I", Cond.fieldLink RX4 136 "MajorityIndex$Votes" "number" "[I", Cond.methodLink RX4 170 yX2_gather, Cond.instanceMethod yX2_gather, Cond.selects RX2 yX2_gather yX2_gather, Cond.code yX2_gather cX2_gather 6 none, Cond.methodLink RX2 106 yX2_isPart, Cond.instanceMethod yX2_isPart, Cond.selects RX2 yX2_isPart yX2_isPart, Cond.code yX2_isPart cX2_isPart 4 (some .boolean), Cond.methodLink RX4 266 yX3_join, Cond.instanceMethod yX3_join, Cond.selects RX3 yX3_join yX3_join, Cond.code yX3_join cX3_join 3 none, Cond.methodLink RX3 28 yX3_add, Cond.methodLink RX4 270 yX3_cancel, Cond.methodLink RX4 113 yX0_oftenIn, Cond.instanceMethod yX0_oftenIn, Cond.selects RX0 yX0_oftenIn yX0_oftenIn, Cond.code yX0_oftenIn cX0_oftenIn 6 (some .int)]
def wsX4_both_r7 : List Cond := [Cond.fieldLink RX0 9 "MajorityIndex$Row" "cell" "[I", Cond.methodLink RX4 262 yX3_keepHeavy, Cond.instanceMethod yX3_keepHeavy, Cond.selects RX3 yX3_keepHeavy yX3_keepHeavy, Cond.code yX3_keepHeavy cX3_keepHeavy 6 none, Cond.static yX4_isHeavy, Cond.code yX4_isHeavy cX4_isHeavy 4 (some .boolean)]
def wsX4_both : List Cond := .code yX4_both cX4_both 8 (some .int) :: ((wsX4_both_r1 ++ (wsX4_both_r2 ++ (wsX4_both_r3 ++ (wsX4_both_r4 ++ (wsX4_both_r5 ++ (wsX4_both_r6 ++ wsX4_both_r7)))))) ++ wsX40 ++ wsX30 ++ wsX00 ++ wsX20)
def wsX4_bothAt_r1 : List Cond := [Cond.constant RX4 102 (-40000), Cond.fieldLink RX4 35 "MajorityIndex" "votes" "LMajorityIndex$Votes;", Cond.fieldLink RX4 174 "MajorityIndex$Votes" "size" "I", Cond.fieldLink RX4 133 "MajorityIndex$Votes" "value" "[I", Cond.methodLink RX4 210 yX4_refusalOfBoth, Cond.instanceMethod yX4_refusalOfBoth, Cond.selects RX4 yX4_refusalOfBoth yX4_refusalOfBoth, Cond.initialized RX4, Cond.code yX4_refusalOfBoth cX4_refusalOfBoth 7 (some .int), Cond.fieldLink RX4 12 "MajorityIndex" "row" "LMajorityIndex$Row;", Cond.methodLink RX4 79 yX0_hasRange, Cond.instanceMethod yX0_hasRange, Cond.selects RX0 yX0_hasRange yX0_hasRange, Cond.initialized RX0, Cond.code yX0_hasRange cX0_hasRange 3 (some .boolean), Cond.fieldLink RX0 15 "MajorityIndex$Row" "length" "I", Cond.methodLink RX4 186 yX4_isShare, Cond.static yX4_isShare, Cond.code yX4_isShare cX4_isShare 2 (some .boolean), Cond.methodLink RX4 189 yX4_isEnough, Cond.instanceMethod yX4_isEnough, Cond.selects RX4 yX4_isEnough yX4_isEnough, Cond.code yX4_isEnough cX4_isEnough 3 (some .boolean), Cond.fieldLink RX4 49 "MajorityIndex" "slotsNow" "I"]
def wsX4_bothAt_r2 : List Cond := [Cond.methodLink RX4 71 yX4_laidTree, Cond.instanceMethod yX4_laidTree, Cond.selects RX4 yX4_laidTree yX4_laidTree, Cond.code yX4_laidTree cX4_laidTree 1 (some (.object "MajorityIndex$Tree")), Cond.fieldLink RX4 53 "MajorityIndex" "treeIsOld" "Z", Cond.fieldLink RX4 21 "MajorityIndex" "tree" "LMajorityIndex$Tree;", Cond.fieldLink RX4 204 "MajorityIndex$Tree" "slotsHere" "I", Cond.fieldLink RX4 57 "MajorityIndex$Row" "length" "I", Cond.methodLink RX4 259 yX2_layRanges, Cond.instanceMethod yX2_layRanges, Cond.selects RX2 yX2_layRanges yX2_layRanges, Cond.initialized RX2, Cond.code yX2_layRanges cX2_layRanges 2 none, Cond.fieldLink RX2 40 "MajorityIndex$Tree" "row" "LMajorityIndex$Row;", Cond.fieldLink RX2 44 "MajorityIndex$Row" "length" "I", Cond.fieldLink RX2 50 "MajorityIndex$Tree" "nodes" "I", Cond.fieldLink RX2 18 "MajorityIndex$Tree" "from" "[I", Cond.fieldLink RX2 22 "MajorityIndex$Tree" "to" "[I", Cond.methodLink RX2 53 yX2_layBelow, Cond.instanceMethod yX2_layBelow, Cond.selects RX2 yX2_layBelow yX2_layBelow, Cond.code yX2_layBelow cX2_layBelow 4 none, Cond.methodLink RX2 57 yX2_rightBelow, Cond.instanceMethod yX2_rightBelow]
def wsX4_bothAt_r3 : List Cond := [Cond.selects RX2 yX2_rightBelow yX2_rightBelow, Cond.code yX2_rightBelow cX2_rightBelow 3 (some .int), Cond.methodLink RX4 87 yX2_renew, Cond.instanceMethod yX2_renew, Cond.selects RX2 yX2_renew yX2_renew, Cond.code yX2_renew cX2_renew 5 (some .int), Cond.methodLink RX2 61 yX2_putTogether, Cond.instanceMethod yX2_putTogether, Cond.selects RX2 yX2_putTogether yX2_putTogether, Cond.code yX2_putTogether cX2_putTogether 2 none, Cond.fieldLink RX2 12 "MajorityIndex$Tree" "joined" "LMajorityIndex$Votes;", Cond.fieldLink RX2 74 "MajorityIndex$Row" "cell" "[I", Cond.fieldLink RX2 85 "MajorityIndex$Tree" "slotsHere" "I", Cond.methodLink RX2 71 yX3_clear, Cond.instanceMethod yX3_clear, Cond.selects RX3 yX3_clear yX3_clear, Cond.initialized RX3, Cond.code yX3_clear cX3_clear 1 none, Cond.fieldLink RX3 18 "MajorityIndex$Votes" "size" "I", Cond.fieldLink RX3 22 "MajorityIndex$Votes" "lost" "I", Cond.fieldLink RX3 25 "MajorityIndex$Votes" "lessBy" "I", Cond.methodLink RX2 77 yX3_add, Cond.instanceMethod yX3_add, Cond.selects RX3 yX3_add yX3_add]
def wsX4_bothAt_r4 : List Cond := [Cond.code yX3_add cX3_add 4 none, Cond.fieldLink RX3 9 "MajorityIndex$Votes" "value" "[I", Cond.fieldLink RX3 15 "MajorityIndex$Votes" "number" "[I", Cond.methodLink RX2 81 yX2_joinNode, Cond.instanceMethod yX2_joinNode, Cond.selects RX2 yX2_joinNode yX2_joinNode, Cond.code yX2_joinNode cX2_joinNode 5 none, Cond.fieldLink RX2 25 "MajorityIndex$Tree" "size" "[I", Cond.fieldLink RX2 34 "MajorityIndex$Tree" "value" "[I", Cond.fieldLink RX2 37 "MajorityIndex$Tree" "number" "[I", Cond.fieldLink RX2 91 "MajorityIndex$Votes" "lost" "I", Cond.fieldLink RX2 28 "MajorityIndex$Tree" "lossOf" "[I", Cond.methodLink RX2 88 yX3_cancel, Cond.instanceMethod yX3_cancel, Cond.selects RX3 yX3_cancel yX3_cancel, Cond.code yX3_cancel cX3_cancel 4 none, Cond.methodLink RX3 32 yX3_order, Cond.instanceMethod yX3_order, Cond.selects RX3 yX3_order yX3_order, Cond.code yX3_order cX3_order 3 none, Cond.methodLink RX3 35 yX3_isAhead, Cond.instanceMethod yX3_isAhead, Cond.selects RX3 yX3_isAhead yX3_isAhead, Cond.code yX3_isAhead cX3_isAhead 3 (some .boolean)]
def wsX4_bothAt_r5 : List Cond := [Cond.methodLink RX3 39 yX3_exchange, Cond.instanceMethod yX3_exchange, Cond.selects RX3 yX3_exchange yX3_exchange, Cond.code yX3_exchange cX3_exchange 5 none, Cond.methodLink RX2 64 yX2_isJoined, Cond.instanceMethod yX2_isJoined, Cond.selects RX2 yX2_isJoined yX2_isJoined, Cond.code yX2_isJoined cX2_isJoined 4 (some .boolean), Cond.fieldLink RX2 94 "MajorityIndex$Votes" "size" "I", Cond.fieldLink RX2 96 "MajorityIndex$Votes" "value" "[I", Cond.fieldLink RX2 97 "MajorityIndex$Votes" "number" "[I", Cond.methodLink RX2 68 yX2_keepJoined, Cond.instanceMethod yX2_keepJoined, Cond.selects RX2 yX2_keepJoined yX2_keepJoined, Cond.code yX2_keepJoined cX2_keepJoined 4 none, Cond.methodLink RX2 98 Lib.Math.min.name, Cond.static Lib.Math.min.name, Cond.initialized "java/lang/Math", Cond.code Lib.Math.min.name Lib.Math.min.code 2 (some .int), Cond.fieldLink RX2 31 "MajorityIndex$Tree" "lessBy" "[I", Cond.fieldLink RX2 104 "MajorityIndex$Votes" "lessBy" "I", Cond.methodLink RX4 214 yX4_gatherHeavyOfBoth, Cond.instanceMethod yX4_gatherHeavyOfBoth, Cond.selects RX4 yX4_gatherHeavyOfBoth yX4_gatherHeavyOfBoth]
def wsX4_bothAt_r6 : List Cond := [Cond.code yX4_gatherHeavyOfBoth cX4_gatherHeavyOfBoth 10 none, Cond.methodLink RX4 91 Lib.Math.min.name, Cond.fieldLink RX4 39 "MajorityIndex" "otherVotes" "LMajorityIndex$Votes;", Cond.methodLink RX4 96 Lib.Math.max.name, Cond.static Lib.Math.max.name, Cond.code Lib.Math.max.name Lib.Math.max.code 2 (some .int), Cond.fieldLink RX4 136 "MajorityIndex$Votes" "number" "[I", Cond.methodLink RX4 170 yX2_gather, Cond.instanceMethod yX2_gather, Cond.selects RX2 yX2_gather yX2_gather, Cond.code yX2_gather cX2_gather 6 none, Cond.methodLink RX2 106 yX2_isPart, Cond.instanceMethod yX2_isPart, Cond.selects RX2 yX2_isPart yX2_isPart, Cond.code yX2_isPart cX2_isPart 4 (some .boolean), Cond.methodLink RX4 266 yX3_join, Cond.instanceMethod yX3_join, Cond.selects RX3 yX3_join yX3_join, Cond.code yX3_join cX3_join 3 none, Cond.methodLink RX3 28 yX3_add, Cond.methodLink RX4 270 yX3_cancel, Cond.methodLink RX4 113 yX0_oftenIn, Cond.instanceMethod yX0_oftenIn, Cond.selects RX0 yX0_oftenIn yX0_oftenIn]
def wsX4_bothAt_r7 : List Cond := [Cond.code yX0_oftenIn cX0_oftenIn 6 (some .int), Cond.fieldLink RX0 9 "MajorityIndex$Row" "cell" "[I", Cond.methodLink RX4 262 yX3_keepHeavy, Cond.instanceMethod yX3_keepHeavy, Cond.selects RX3 yX3_keepHeavy yX3_keepHeavy, Cond.code yX3_keepHeavy cX3_keepHeavy 6 none, Cond.static yX4_isHeavy, Cond.code yX4_isHeavy cX4_isHeavy 4 (some .boolean)]
def wsX4_bothAt : List Cond := .code yX4_bothAt cX4_bothAt 8 (some .int) :: ((wsX4_bothAt_r1 ++ (wsX4_bothAt_r2 ++ (wsX4_bothAt_r3 ++ (wsX4_bothAt_r4 ++ (wsX4_bothAt_r5 ++ (wsX4_bothAt_r6 ++ wsX4_bothAt_r7)))))) ++ wsX40 ++ wsX30 ++ wsX00 ++ wsX20)
def wsX4_rootTotalWith_r1 : List Cond := [Cond.fieldLink RX4 12 "MajorityIndex" "row" "LMajorityIndex$Row;", Cond.fieldLink RX4 110 "MajorityIndex$Row" "cell" "[I", Cond.fieldLink RX4 35 "MajorityIndex" "votes" "LMajorityIndex$Votes;", Cond.methodLink RX4 87 yX2_renew, Cond.instanceMethod yX2_renew, Cond.selects RX2 yX2_renew yX2_renew, Cond.initialized RX2, Cond.code yX2_renew cX2_renew 5 (some .int), Cond.fieldLink RX2 50 "MajorityIndex$Tree" "nodes" "I", Cond.fieldLink RX2 18 "MajorityIndex$Tree" "from" "[I", Cond.fieldLink RX2 22 "MajorityIndex$Tree" "to" "[I", Cond.methodLink RX2 61 yX2_putTogether, Cond.instanceMethod yX2_putTogether, Cond.selects RX2 yX2_putTogether yX2_putTogether, Cond.code yX2_putTogether cX2_putTogether 2 none, Cond.fieldLink RX2 12 "MajorityIndex$Tree" "joined" "LMajorityIndex$Votes;", Cond.fieldLink RX2 40 "MajorityIndex$Tree" "row" "LMajorityIndex$Row;", Cond.fieldLink RX2 74 "MajorityIndex$Row" "cell" "[I", Cond.fieldLink RX2 85 "MajorityIndex$Tree" "slotsHere" "I", Cond.methodLink RX2 71 yX3_clear, Cond.instanceMethod yX3_clear, Cond.selects RX3 yX3_clear yX3_clear, Cond.initialized RX3, Cond.code yX3_clear cX3_clear 1 none]
def wsX4_rootTotalWith_r2 : List Cond := [Cond.fieldLink RX3 18 "MajorityIndex$Votes" "size" "I", Cond.fieldLink RX3 22 "MajorityIndex$Votes" "lost" "I", Cond.fieldLink RX3 25 "MajorityIndex$Votes" "lessBy" "I", Cond.methodLink RX2 77 yX3_add, Cond.instanceMethod yX3_add, Cond.selects RX3 yX3_add yX3_add, Cond.code yX3_add cX3_add 4 none, Cond.fieldLink RX3 9 "MajorityIndex$Votes" "value" "[I", Cond.fieldLink RX3 15 "MajorityIndex$Votes" "number" "[I", Cond.methodLink RX2 81 yX2_joinNode, Cond.instanceMethod yX2_joinNode, Cond.selects RX2 yX2_joinNode yX2_joinNode, Cond.code yX2_joinNode cX2_joinNode 5 none, Cond.fieldLink RX2 25 "MajorityIndex$Tree" "size" "[I", Cond.fieldLink RX2 34 "MajorityIndex$Tree" "value" "[I", Cond.fieldLink RX2 37 "MajorityIndex$Tree" "number" "[I", Cond.fieldLink RX2 91 "MajorityIndex$Votes" "lost" "I", Cond.fieldLink RX2 28 "MajorityIndex$Tree" "lossOf" "[I", Cond.methodLink RX2 57 yX2_rightBelow, Cond.instanceMethod yX2_rightBelow, Cond.selects RX2 yX2_rightBelow yX2_rightBelow, Cond.code yX2_rightBelow cX2_rightBelow 3 (some .int), Cond.methodLink RX2 88 yX3_cancel, Cond.instanceMethod yX3_cancel]
def wsX4_rootTotalWith_r3 : List Cond := [Cond.selects RX3 yX3_cancel yX3_cancel, Cond.code yX3_cancel cX3_cancel 4 none, Cond.methodLink RX3 32 yX3_order, Cond.instanceMethod yX3_order, Cond.selects RX3 yX3_order yX3_order, Cond.code yX3_order cX3_order 3 none, Cond.methodLink RX3 35 yX3_isAhead, Cond.instanceMethod yX3_isAhead, Cond.selects RX3 yX3_isAhead yX3_isAhead, Cond.code yX3_isAhead cX3_isAhead 3 (some .boolean), Cond.methodLink RX3 39 yX3_exchange, Cond.instanceMethod yX3_exchange, Cond.selects RX3 yX3_exchange yX3_exchange, Cond.code yX3_exchange cX3_exchange 5 none, Cond.methodLink RX2 64 yX2_isJoined, Cond.instanceMethod yX2_isJoined, Cond.selects RX2 yX2_isJoined yX2_isJoined, Cond.code yX2_isJoined cX2_isJoined 4 (some .boolean), Cond.fieldLink RX2 94 "MajorityIndex$Votes" "size" "I", Cond.fieldLink RX2 96 "MajorityIndex$Votes" "value" "[I", Cond.fieldLink RX2 97 "MajorityIndex$Votes" "number" "[I", Cond.methodLink RX2 68 yX2_keepJoined, Cond.instanceMethod yX2_keepJoined, Cond.selects RX2 yX2_keepJoined yX2_keepJoined]
def wsX4_rootTotalWith_r4 : List Cond := [Cond.code yX2_keepJoined cX2_keepJoined 4 none, Cond.methodLink RX2 98 Lib.Math.min.name, Cond.static Lib.Math.min.name, Cond.initialized "java/lang/Math", Cond.code Lib.Math.min.name Lib.Math.min.code 2 (some .int), Cond.fieldLink RX2 31 "MajorityIndex$Tree" "lessBy" "[I", Cond.fieldLink RX2 104 "MajorityIndex$Votes" "lessBy" "I", Cond.methodLink RX4 129 yX2_copyTo, Cond.instanceMethod yX2_copyTo, Cond.selects RX2 yX2_copyTo yX2_copyTo, Cond.code yX2_copyTo cX2_copyTo 3 none, Cond.methodLink RX4 176 yX3_total, Cond.instanceMethod yX3_total, Cond.selects RX3 yX3_total yX3_total, Cond.code yX3_total cX3_total 3 (some .int)]
def wsX4_rootTotalWith : List Cond := .code yX4_rootTotalWith cX4_rootTotalWith 6 (some .int) :: ((wsX4_rootTotalWith_r1 ++ (wsX4_rootTotalWith_r2 ++ (wsX4_rootTotalWith_r3 ++ wsX4_rootTotalWith_r4))) ++ wsX40 ++ wsX00 ++ wsX20 ++ wsX30)
def wsX4_swings_r1 : List Cond := [Cond.fieldLink RX4 12 "MajorityIndex" "row" "LMajorityIndex$Row;", Cond.methodLink RX4 79 yX0_hasRange, Cond.instanceMethod yX0_hasRange, Cond.selects RX0 yX0_hasRange yX0_hasRange, Cond.initialized RX0, Cond.code yX0_hasRange cX0_hasRange 3 (some .boolean), Cond.fieldLink RX0 15 "MajorityIndex$Row" "length" "I", Cond.methodLink RX4 68 yX4_isValue, Cond.static yX4_isValue, Cond.initialized RX4, Cond.code yX4_isValue cX4_isValue 1 (some .boolean), Cond.methodLink RX4 71 yX4_laidTree, Cond.instanceMethod yX4_laidTree, Cond.selects RX4 yX4_laidTree yX4_laidTree, Cond.code yX4_laidTree cX4_laidTree 1 (some (.object "MajorityIndex$Tree")), Cond.fieldLink RX4 53 "MajorityIndex" "treeIsOld" "Z", Cond.fieldLink RX4 21 "MajorityIndex" "tree" "LMajorityIndex$Tree;", Cond.fieldLink RX4 49 "MajorityIndex" "slotsNow" "I", Cond.fieldLink RX4 204 "MajorityIndex$Tree" "slotsHere" "I", Cond.fieldLink RX4 57 "MajorityIndex$Row" "length" "I", Cond.methodLink RX4 259 yX2_layRanges, Cond.instanceMethod yX2_layRanges, Cond.selects RX2 yX2_layRanges yX2_layRanges, Cond.initialized RX2]
def wsX4_swings_r2 : List Cond := [Cond.code yX2_layRanges cX2_layRanges 2 none, Cond.fieldLink RX2 40 "MajorityIndex$Tree" "row" "LMajorityIndex$Row;", Cond.fieldLink RX2 44 "MajorityIndex$Row" "length" "I", Cond.fieldLink RX2 50 "MajorityIndex$Tree" "nodes" "I", Cond.fieldLink RX2 18 "MajorityIndex$Tree" "from" "[I", Cond.fieldLink RX2 22 "MajorityIndex$Tree" "to" "[I", Cond.methodLink RX2 53 yX2_layBelow, Cond.instanceMethod yX2_layBelow, Cond.selects RX2 yX2_layBelow yX2_layBelow, Cond.code yX2_layBelow cX2_layBelow 4 none, Cond.methodLink RX2 57 yX2_rightBelow, Cond.instanceMethod yX2_rightBelow, Cond.selects RX2 yX2_rightBelow yX2_rightBelow, Cond.code yX2_rightBelow cX2_rightBelow 3 (some .int), Cond.methodLink RX4 87 yX2_renew, Cond.instanceMethod yX2_renew, Cond.selects RX2 yX2_renew yX2_renew, Cond.code yX2_renew cX2_renew 5 (some .int), Cond.methodLink RX2 61 yX2_putTogether, Cond.instanceMethod yX2_putTogether, Cond.selects RX2 yX2_putTogether yX2_putTogether, Cond.code yX2_putTogether cX2_putTogether 2 none, Cond.fieldLink RX2 12 "MajorityIndex$Tree" "joined" "LMajorityIndex$Votes;", Cond.fieldLink RX2 74 "MajorityIndex$Row" "cell" "[I"]
def wsX4_swings_r3 : List Cond := [Cond.fieldLink RX2 85 "MajorityIndex$Tree" "slotsHere" "I", Cond.methodLink RX2 71 yX3_clear, Cond.instanceMethod yX3_clear, Cond.selects RX3 yX3_clear yX3_clear, Cond.initialized RX3, Cond.code yX3_clear cX3_clear 1 none, Cond.fieldLink RX3 18 "MajorityIndex$Votes" "size" "I", Cond.fieldLink RX3 22 "MajorityIndex$Votes" "lost" "I", Cond.fieldLink RX3 25 "MajorityIndex$Votes" "lessBy" "I", Cond.methodLink RX2 77 yX3_add, Cond.instanceMethod yX3_add, Cond.selects RX3 yX3_add yX3_add, Cond.code yX3_add cX3_add 4 none, Cond.fieldLink RX3 9 "MajorityIndex$Votes" "value" "[I", Cond.fieldLink RX3 15 "MajorityIndex$Votes" "number" "[I", Cond.methodLink RX2 81 yX2_joinNode, Cond.instanceMethod yX2_joinNode, Cond.selects RX2 yX2_joinNode yX2_joinNode, Cond.code yX2_joinNode cX2_joinNode 5 none, Cond.fieldLink RX2 25 "MajorityIndex$Tree" "size" "[I", Cond.fieldLink RX2 34 "MajorityIndex$Tree" "value" "[I", Cond.fieldLink RX2 37 "MajorityIndex$Tree" "number" "[I", Cond.fieldLink RX2 91 "MajorityIndex$Votes" "lost" "I", Cond.fieldLink RX2 28 "MajorityIndex$Tree" "lossOf" "[I"]
def wsX4_swings_r4 : List Cond := [Cond.methodLink RX2 88 yX3_cancel, Cond.instanceMethod yX3_cancel, Cond.selects RX3 yX3_cancel yX3_cancel, Cond.code yX3_cancel cX3_cancel 4 none, Cond.methodLink RX3 32 yX3_order, Cond.instanceMethod yX3_order, Cond.selects RX3 yX3_order yX3_order, Cond.code yX3_order cX3_order 3 none, Cond.methodLink RX3 35 yX3_isAhead, Cond.instanceMethod yX3_isAhead, Cond.selects RX3 yX3_isAhead yX3_isAhead, Cond.code yX3_isAhead cX3_isAhead 3 (some .boolean), Cond.methodLink RX3 39 yX3_exchange, Cond.instanceMethod yX3_exchange, Cond.selects RX3 yX3_exchange yX3_exchange, Cond.code yX3_exchange cX3_exchange 5 none, Cond.methodLink RX2 64 yX2_isJoined, Cond.instanceMethod yX2_isJoined, Cond.selects RX2 yX2_isJoined yX2_isJoined, Cond.code yX2_isJoined cX2_isJoined 4 (some .boolean), Cond.fieldLink RX2 94 "MajorityIndex$Votes" "size" "I", Cond.fieldLink RX2 96 "MajorityIndex$Votes" "value" "[I", Cond.fieldLink RX2 97 "MajorityIndex$Votes" "number" "[I", Cond.methodLink RX2 68 yX2_keepJoined]
def wsX4_swings_r5 : List Cond := [Cond.instanceMethod yX2_keepJoined, Cond.selects RX2 yX2_keepJoined yX2_keepJoined, Cond.code yX2_keepJoined cX2_keepJoined 4 none, Cond.methodLink RX2 98 Lib.Math.min.name, Cond.static Lib.Math.min.name, Cond.initialized "java/lang/Math", Cond.code Lib.Math.min.name Lib.Math.min.code 2 (some .int), Cond.fieldLink RX2 31 "MajorityIndex$Tree" "lessBy" "[I", Cond.fieldLink RX2 104 "MajorityIndex$Votes" "lessBy" "I", Cond.methodLink RX4 246 yX4_rootTotalWith, Cond.instanceMethod yX4_rootTotalWith, Cond.selects RX4 yX4_rootTotalWith yX4_rootTotalWith, Cond.code yX4_rootTotalWith cX4_rootTotalWith 6 (some .int), Cond.fieldLink RX4 110 "MajorityIndex$Row" "cell" "[I", Cond.fieldLink RX4 35 "MajorityIndex" "votes" "LMajorityIndex$Votes;", Cond.methodLink RX4 129 yX2_copyTo, Cond.instanceMethod yX2_copyTo, Cond.selects RX2 yX2_copyTo yX2_copyTo, Cond.code yX2_copyTo cX2_copyTo 3 none, Cond.methodLink RX4 176 yX3_total, Cond.instanceMethod yX3_total, Cond.selects RX3 yX3_total yX3_total, Cond.code yX3_total cX3_total 3 (some .int)]
def wsX4_swings : List Cond := .code yX4_swings cX4_swings 10 (some .int) :: ((wsX4_swings_r1 ++ (wsX4_swings_r2 ++ (wsX4_swings_r3 ++ (wsX4_swings_r4 ++ wsX4_swings_r5)))) ++ wsX40 ++ wsX00 ++ wsX20 ++ wsX30)
def wsX4_told_r1 : List Cond := [Cond.fieldLink RX4 12 "MajorityIndex" "row" "LMajorityIndex$Row;", Cond.fieldLink RX4 57 "MajorityIndex$Row" "length" "I", Cond.fieldLink RX4 49 "MajorityIndex" "slotsNow" "I", Cond.fieldLink RX4 163 "MajorityIndex$Tree" "nodes" "I", Cond.fieldLink RX4 139 "MajorityIndex$Tree" "lossOf" "[I", Cond.methodLink RX4 71 yX4_laidTree, Cond.instanceMethod yX4_laidTree, Cond.selects RX4 yX4_laidTree yX4_laidTree, Cond.initialized RX4, Cond.code yX4_laidTree cX4_laidTree 1 (some (.object "MajorityIndex$Tree")), Cond.fieldLink RX4 53 "MajorityIndex" "treeIsOld" "Z", Cond.fieldLink RX4 21 "MajorityIndex" "tree" "LMajorityIndex$Tree;", Cond.fieldLink RX4 204 "MajorityIndex$Tree" "slotsHere" "I", Cond.methodLink RX4 259 yX2_layRanges, Cond.instanceMethod yX2_layRanges, Cond.selects RX2 yX2_layRanges yX2_layRanges, Cond.initialized RX2, Cond.code yX2_layRanges cX2_layRanges 2 none, Cond.fieldLink RX2 40 "MajorityIndex$Tree" "row" "LMajorityIndex$Row;", Cond.fieldLink RX2 44 "MajorityIndex$Row" "length" "I", Cond.fieldLink RX2 50 "MajorityIndex$Tree" "nodes" "I", Cond.fieldLink RX2 18 "MajorityIndex$Tree" "from" "[I", Cond.fieldLink RX2 22 "MajorityIndex$Tree" "to" "[I", Cond.methodLink RX2 53 yX2_layBelow]
def wsX4_told_r2 : List Cond := [Cond.instanceMethod yX2_layBelow, Cond.selects RX2 yX2_layBelow yX2_layBelow, Cond.code yX2_layBelow cX2_layBelow 4 none, Cond.methodLink RX2 57 yX2_rightBelow, Cond.instanceMethod yX2_rightBelow, Cond.selects RX2 yX2_rightBelow yX2_rightBelow, Cond.code yX2_rightBelow cX2_rightBelow 3 (some .int), Cond.methodLink RX4 87 yX2_renew, Cond.instanceMethod yX2_renew, Cond.selects RX2 yX2_renew yX2_renew, Cond.code yX2_renew cX2_renew 5 (some .int), Cond.methodLink RX2 61 yX2_putTogether, Cond.instanceMethod yX2_putTogether, Cond.selects RX2 yX2_putTogether yX2_putTogether, Cond.code yX2_putTogether cX2_putTogether 2 none, Cond.fieldLink RX2 12 "MajorityIndex$Tree" "joined" "LMajorityIndex$Votes;", Cond.fieldLink RX2 74 "MajorityIndex$Row" "cell" "[I", Cond.fieldLink RX2 85 "MajorityIndex$Tree" "slotsHere" "I", Cond.methodLink RX2 71 yX3_clear, Cond.instanceMethod yX3_clear, Cond.selects RX3 yX3_clear yX3_clear, Cond.initialized RX3, Cond.code yX3_clear cX3_clear 1 none, Cond.fieldLink RX3 18 "MajorityIndex$Votes" "size" "I"]
def wsX4_told_r3 : List Cond := [Cond.fieldLink RX3 22 "MajorityIndex$Votes" "lost" "I", Cond.fieldLink RX3 25 "MajorityIndex$Votes" "lessBy" "I", Cond.methodLink RX2 77 yX3_add, Cond.instanceMethod yX3_add, Cond.selects RX3 yX3_add yX3_add, Cond.code yX3_add cX3_add 4 none, Cond.fieldLink RX3 9 "MajorityIndex$Votes" "value" "[I", Cond.fieldLink RX3 15 "MajorityIndex$Votes" "number" "[I", Cond.methodLink RX2 81 yX2_joinNode, Cond.instanceMethod yX2_joinNode, Cond.selects RX2 yX2_joinNode yX2_joinNode, Cond.code yX2_joinNode cX2_joinNode 5 none, Cond.fieldLink RX2 25 "MajorityIndex$Tree" "size" "[I", Cond.fieldLink RX2 34 "MajorityIndex$Tree" "value" "[I", Cond.fieldLink RX2 37 "MajorityIndex$Tree" "number" "[I", Cond.fieldLink RX2 91 "MajorityIndex$Votes" "lost" "I", Cond.fieldLink RX2 28 "MajorityIndex$Tree" "lossOf" "[I", Cond.methodLink RX2 88 yX3_cancel, Cond.instanceMethod yX3_cancel, Cond.selects RX3 yX3_cancel yX3_cancel, Cond.code yX3_cancel cX3_cancel 4 none, Cond.methodLink RX3 32 yX3_order, Cond.instanceMethod yX3_order, Cond.selects RX3 yX3_order yX3_order]
def wsX4_told_r4 : List Cond := [Cond.code yX3_order cX3_order 3 none, Cond.methodLink RX3 35 yX3_isAhead, Cond.instanceMethod yX3_isAhead, Cond.selects RX3 yX3_isAhead yX3_isAhead, Cond.code yX3_isAhead cX3_isAhead 3 (some .boolean), Cond.methodLink RX3 39 yX3_exchange, Cond.instanceMethod yX3_exchange, Cond.selects RX3 yX3_exchange yX3_exchange, Cond.code yX3_exchange cX3_exchange 5 none, Cond.methodLink RX2 64 yX2_isJoined, Cond.instanceMethod yX2_isJoined, Cond.selects RX2 yX2_isJoined yX2_isJoined, Cond.code yX2_isJoined cX2_isJoined 4 (some .boolean), Cond.fieldLink RX2 94 "MajorityIndex$Votes" "size" "I", Cond.fieldLink RX2 96 "MajorityIndex$Votes" "value" "[I", Cond.fieldLink RX2 97 "MajorityIndex$Votes" "number" "[I", Cond.methodLink RX2 68 yX2_keepJoined, Cond.instanceMethod yX2_keepJoined, Cond.selects RX2 yX2_keepJoined yX2_keepJoined, Cond.code yX2_keepJoined cX2_keepJoined 4 none, Cond.methodLink RX2 98 Lib.Math.min.name, Cond.static Lib.Math.min.name, Cond.initialized "java/lang/Math", Cond.code Lib.Math.min.name Lib.Math.min.code 2 (some .int)]
def wsX4_told_r5 : List Cond := [Cond.fieldLink RX2 31 "MajorityIndex$Tree" "lessBy" "[I", Cond.fieldLink RX2 104 "MajorityIndex$Votes" "lessBy" "I", Cond.methodLink RX4 250 yX2_nodesWithMajority, Cond.instanceMethod yX2_nodesWithMajority, Cond.selects RX2 yX2_nodesWithMajority yX2_nodesWithMajority, Cond.code yX2_nodesWithMajority cX2_nodesWithMajority 3 (some .int), Cond.constant RX2 120 (-40000), Cond.methodLink RX2 117 yX0_leader, Cond.instanceMethod yX0_leader, Cond.selects RX0 yX0_leader yX0_leader, Cond.initialized RX0, Cond.code yX0_leader cX0_leader 6 (some .int), Cond.constant RX0 23 (-40000), Cond.fieldLink RX0 9 "MajorityIndex$Row" "cell" "[I", Cond.methodLink RX0 24 yX0_oftenIn, Cond.instanceMethod yX0_oftenIn, Cond.selects RX0 yX0_oftenIn yX0_oftenIn, Cond.code yX0_oftenIn cX0_oftenIn 6 (some .int), Cond.static yX4_isHeavy, Cond.code yX4_isHeavy cX4_isHeavy 4 (some .boolean), Cond.methodLink RX4 253 yX2_deepest, Cond.instanceMethod yX2_deepest, Cond.selects RX2 yX2_deepest yX2_deepest, Cond.code yX2_deepest cX2_deepest 3 (some .int)]
def wsX4_told_r6 : List Cond := [Cond.methodLink RX4 256 yX2_allLosses, Cond.instanceMethod yX2_allLosses, Cond.selects RX2 yX2_allLosses yX2_allLosses, Cond.code yX2_allLosses cX2_allLosses 3 (some .int)]
def wsX4_told : List Cond := .code yX4_told cX4_told 2 (some .int) :: ((wsX4_told_r1 ++ (wsX4_told_r2 ++ (wsX4_told_r3 ++ (wsX4_told_r4 ++ (wsX4_told_r5 ++ wsX4_told_r6))))) ++ wsX40 ++ wsX00 ++ wsX20 ++ wsX30)
theorem mi_wsX4_set_wsX4_set_r1 : ∀ w ∈ wsX4_set_r1, w ∈ wsX4_set := fun _ h => (List.mem_cons_of_mem _ (List.mem_append_left _ (List.mem_append_left _ (List.mem_append_left _ (List.mem_append_left _ (List.mem_append_left _ h))))))
theorem mi_wsX4_set_wsX00 : ∀ w ∈ wsX00, w ∈ wsX4_set := fun _ h => (List.mem_cons_of_mem _ (List.mem_append_left _ (List.mem_append_left _ (List.mem_append_right _ h))))
set_option maxRecDepth 20000 in
theorem ggX4_set_X0_hasPlace : GoodIn wsX4_set wsX0_hasPlace := goodIn_k _ [(wsX4_set_r1, [5, 6]), (wsX00, [0, 1])] (gk_c mi_wsX4_set_wsX4_set_r1 (gk_c mi_wsX4_set_wsX00 gk_n)) rfl (by decide +kernel)
set_option maxRecDepth 20000 in
theorem gX4_set_X0_hasPlace : GoodIn wsX4_set (wsV RX4 64 RX0 yX0_hasPlace wsX0_hasPlace) := goodIn_app (goodIn_k _ [(wsX4_set_r1, [1, 2, 3, 4])] (gk_c mi_wsX4_set_wsX4_set_r1 gk_n) rfl (by decide +kernel)) ggX4_set_X0_hasPlace
set_option maxRecDepth 20000 in
theorem ggX4_set_X4_isValue : GoodIn wsX4_set wsX4_isValue := goodIn_k _ [(wsX4_set_r1, [10])] (gk_c mi_wsX4_set_wsX4_set_r1 gk_n) rfl (by decide +kernel)
set_option maxRecDepth 20000 in
theorem gX4_set_X4_isValue : GoodIn wsX4_set (va_wsS RX4 68 yX4_isValue wsX4_isValue) := goodIn_app (goodIn_k _ [(wsX4_set_r1, [7, 8, 9])] (gk_c mi_wsX4_set_wsX4_set_r1 gk_n) rfl (by decide +kernel)) ggX4_set_X4_isValue
theorem mi_wsX4_set_wsX4_set_r2 : ∀ w ∈ wsX4_set_r2, w ∈ wsX4_set := fun _ h => (List.mem_cons_of_mem _ (List.mem_append_left _ (List.mem_append_left _ (List.mem_append_left _ (List.mem_append_left _ (List.mem_append_right _ (List.mem_append_left _ h)))))))
theorem mi_wsX4_set_wsX4_set_r3 : ∀ w ∈ wsX4_set_r3, w ∈ wsX4_set := fun _ h => (List.mem_cons_of_mem _ (List.mem_append_left _ (List.mem_append_left _ (List.mem_append_left _ (List.mem_append_left _ (List.mem_append_right _ (List.mem_append_right _ (List.mem_append_left _ h))))))))
theorem mi_wsX4_set_wsX4_set_r4 : ∀ w ∈ wsX4_set_r4, w ∈ wsX4_set := fun _ h => (List.mem_cons_of_mem _ (List.mem_append_left _ (List.mem_append_left _ (List.mem_append_left _ (List.mem_append_left _ (List.mem_append_right _ (List.mem_append_right _ (List.mem_append_right _ (List.mem_append_left _ h)))))))))
theorem mi_wsX4_set_wsX4_set_r5 : ∀ w ∈ wsX4_set_r5, w ∈ wsX4_set := fun _ h => (List.mem_cons_of_mem _ (List.mem_append_left _ (List.mem_append_left _ (List.mem_append_left _ (List.mem_append_left _ (List.mem_append_right _ (List.mem_append_right _ (List.mem_append_right _ (List.mem_append_right _ h)))))))))
theorem mi_wsX4_set_wsX40 : ∀ w ∈ wsX40, w ∈ wsX4_set := fun _ h => (List.mem_cons_of_mem _ (List.mem_append_left _ (List.mem_append_left _ (List.mem_append_left _ (List.mem_append_right _ h)))))
theorem mi_wsX4_set_wsX20 : ∀ w ∈ wsX20, w ∈ wsX4_set := fun _ h => (List.mem_cons_of_mem _ (List.mem_append_left _ (List.mem_append_right _ h)))
theorem mi_wsX4_set_wsX30 : ∀ w ∈ wsX30, w ∈ wsX4_set := fun _ h => (List.mem_cons_of_mem _ (List.mem_append_right _ h))
set_option maxRecDepth 20000 in
theorem ggX4_set_X4_laidTree : GoodIn wsX4_set wsX4_laidTree := goodIn_k _ [(wsX4_set_r1, [14, 15, 16, 17, 18, 0, 19, 20, 21, 22, 23]), (wsX4_set_r2, [0, 1, 2, 3, 4, 5, 6, 7, 8, 9, 10, 11, 12, 13, 14, 15, 16, 17, 18, 19, 20, 21, 22, 23]), (wsX4_set_r3, [0, 1, 2, 3, 4, 5, 6, 7, 8, 9, 10, 11, 12, 13, 14, 15, 16, 17, 18, 19, 20, 21, 22, 23]), (wsX4_set_r4, [0, 1, 2, 3, 4, 5, 6, 7, 8, 9, 10, 11, 12, 13, 14, 15, 16, 17, 18, 19, 20, 21, 22, 23]), (wsX4_set_r5, [0, 1, 2, 3, 4, 5, 6, 7, 8]), (wsX40, [0, 1, 2, 3, 4, 5, 6, 7, 8]), (wsX20, [0, 1, 2, 3, 4, 5, 6, 7, 8, 9, 10]), (wsX00, [0, 1]), (wsX30, [0, 1, 2, 3, 4])] (gk_c mi_wsX4_set_wsX4_set_r1 (gk_c mi_wsX4_set_wsX4_set_r2 (gk_c mi_wsX4_set_wsX4_set_r3 (gk_c mi_wsX4_set_wsX4_set_r4 (gk_c mi_wsX4_set_wsX4_set_r5 (gk_c mi_wsX4_set_wsX40 (gk_c mi_wsX4_set_wsX20 (gk_c mi_wsX4_set_wsX00 (gk_c mi_wsX4_set_wsX30 gk_n))))))))) rfl (by decide +kernel)
set_option maxRecDepth 20000 in
theorem gX4_set_X4_laidTree : GoodIn wsX4_set (wsV RX4 71 RX4 yX4_laidTree wsX4_laidTree) := goodIn_app (goodIn_k _ [(wsX4_set_r1, [11, 12, 13, 9])] (gk_c mi_wsX4_set_wsX4_set_r1 gk_n) rfl (by decide +kernel)) ggX4_set_X4_laidTree
set_option maxRecDepth 20000 in
theorem ggX4_set_X4_overwrite : GoodIn wsX4_set wsX4_overwrite := goodIn_k _ [(wsX4_set_r5, [12]), (wsX4_set_r1, [0]), (wsX4_set_r5, [13]), (wsX4_set_r2, [14, 15, 16]), (wsX4_set_r1, [23]), (wsX4_set_r2, [17, 3, 4, 5, 18, 19, 20, 21, 22, 1, 23]), (wsX4_set_r3, [0, 1, 2, 3, 4, 5, 6, 7, 8, 9, 10, 11, 12, 13, 14, 15, 16, 17, 18, 19, 20, 21, 22, 23]), (wsX4_set_r2, [10, 11, 12, 13]), (wsX4_set_r4, [0, 1, 2, 3, 4, 5, 6, 7, 8, 9, 10, 11, 12, 13, 14, 15, 16, 17, 18, 19, 20, 21, 22, 23]), (wsX4_set_r5, [0, 1, 2, 3, 4, 5, 6, 7, 8]), (wsX40, [0, 1, 2, 3, 4, 5, 6, 7, 8]), (wsX00, [0, 1]), (wsX20, [0, 1, 2, 3, 4, 5, 6, 7, 8, 9, 10]), (wsX30, [0, 1, 2, 3, 4])] (gk_c mi_wsX4_set_wsX4_set_r5 (gk_c mi_wsX4_set_wsX4_set_r1 (gk_c mi_wsX4_set_wsX4_set_r5 (gk_c mi_wsX4_set_wsX4_set_r2 (gk_c mi_wsX4_set_wsX4_set_r1 (gk_c mi_wsX4_set_wsX4_set_r2 (gk_c mi_wsX4_set_wsX4_set_r3 (gk_c mi_wsX4_set_wsX4_set_r2 (gk_c mi_wsX4_set_wsX4_set_r4 (gk_c mi_wsX4_set_wsX4_set_r5 (gk_c mi_wsX4_set_wsX40 (gk_c mi_wsX4_set_wsX00 (gk_c mi_wsX4_set_wsX20 (gk_c mi_wsX4_set_wsX30 gk_n)))))))))))))) rfl (by decide +kernel)
set_option maxRecDepth 20000 in
theorem gX4_set_X4_overwrite : GoodIn wsX4_set (wsV RX4 75 RX4 yX4_overwrite wsX4_overwrite) := goodIn_app (goodIn_k _ [(wsX4_set_r5, [9, 10, 11]), (wsX4_set_r1, [9])] (gk_c mi_wsX4_set_wsX4_set_r5 (gk_c mi_wsX4_set_wsX4_set_r1 gk_n)) rfl (by decide +kernel)) ggX4_set_X4_overwrite
def dt_cX4_set_0 : List (Nat × Nat × Nat × Nat) := [(0, 42, 0, 0), (1, 180, 2, 12), (4, 27, 0, 0), (5, 182, 2, 64), (8, 153, 2, 10), (11, 28, 0, 0), (12, 184, 2, 68), (15, 154, 2, 5), (18, 2, 0, 0), (19, 172, 0, 0), (20, 42, 0, 0), (21, 42, 0, 0), (22, 182, 2, 71), (25, 27, 0, 0), (26, 27, 0, 0), (27, 4, 0, 0), (28, 96, 0, 0), (29, 28, 0, 0), (30, 182, 2, 75), (33, 172, 0, 0)]
theorem da_cX4_set_0 : fw dt_cX4_set_0 0 cX4_set.data.toList = true := by decide +kernel
theorem dX4_set_0 : decode cX4_set 0 = .ok (.aload_n 0, 1) := fo_42 (fw_get da_cX4_set_0 0 rfl)
theorem dX4_set_1 : decode cX4_set 1 = .ok (.getfield 12, 3) := fo_180 (fw_get da_cX4_set_0 1 rfl)
theorem dX4_set_4 : decode cX4_set 4 = .ok (.iload_n 1, 1) := fo_27 (fw_get da_cX4_set_0 2 rfl)
theorem dX4_set_5 : decode cX4_set 5 = .ok (.invokevirtual 64, 3) := fo_182 (fw_get da_cX4_set_0 3 rfl)
theorem dX4_set_8 : decode cX4_set 8 = .ok (.ifCond .eq 10, 3) := fo_153 (fw_get da_cX4_set_0 4 rfl) (by decide +kernel)
theorem dX4_set_11 : decode cX4_set 11 = .ok (.iload_n 2, 1) := fo_28 (fw_get da_cX4_set_0 5 rfl)
theorem dX4_set_12 : decode cX4_set 12 = .ok (.invokestatic 68, 3) := fo_184 (fw_get da_cX4_set_0 6 rfl)
theorem dX4_set_15 : decode cX4_set 15 = .ok (.ifCond .ne 5, 3) := fo_154 (fw_get da_cX4_set_0 7 rfl) (by decide +kernel)
theorem dX4_set_18 : decode cX4_set 18 = .ok (.iconst (-1), 1) := fo_2 (fw_get da_cX4_set_0 8 rfl)
theorem dX4_set_19 : decode cX4_set 19 = .ok (.ireturn, 1) := fo_172 (fw_get da_cX4_set_0 9 rfl)
theorem dX4_set_20 : decode cX4_set 20 = .ok (.aload_n 0, 1) := fo_42 (fw_get da_cX4_set_0 10 rfl)
theorem dX4_set_21 : decode cX4_set 21 = .ok (.aload_n 0, 1) := fo_42 (fw_get da_cX4_set_0 11 rfl)
theorem dX4_set_22 : decode cX4_set 22 = .ok (.invokevirtual 71, 3) := fo_182 (fw_get da_cX4_set_0 12 rfl)
theorem dX4_set_25 : decode cX4_set 25 = .ok (.iload_n 1, 1) := fo_27 (fw_get da_cX4_set_0 13 rfl)
theorem dX4_set_26 : decode cX4_set 26 = .ok (.iload_n 1, 1) := fo_27 (fw_get da_cX4_set_0 14 rfl)
theorem dX4_set_27 : decode cX4_set 27 = .ok (.iconst 1, 1) := fo_4 (fw_get da_cX4_set_0 15 rfl)
theorem dX4_set_28 : decode cX4_set 28 = .ok (.iadd, 1) := fo_96 (fw_get da_cX4_set_0 16 rfl)
theorem dX4_set_29 : decode cX4_set 29 = .ok (.iload_n 2, 1) := fo_28 (fw_get da_cX4_set_0 17 rfl)
theorem dX4_set_30 : decode cX4_set 30 = .ok (.invokevirtual 75, 3) := fo_182 (fw_get da_cX4_set_0 18 rfl)
theorem dX4_set_33 : decode cX4_set 33 = .ok (.ireturn, 1) := fo_172 (fw_get da_cX4_set_0 19 rfl)
theorem mi_wsX4_fill_wsX4_fill_r1 : ∀ w ∈ wsX4_fill_r1, w ∈ wsX4_fill := fun _ h => (List.mem_cons_of_mem _ (List.mem_append_left _ (List.mem_append_left _ (List.mem_append_left _ (List.mem_append_left _ (List.mem_append_left _ h))))))
theorem mi_wsX4_fill_wsX00 : ∀ w ∈ wsX00, w ∈ wsX4_fill := fun _ h => (List.mem_cons_of_mem _ (List.mem_append_left _ (List.mem_append_left _ (List.mem_append_right _ h))))
set_option maxRecDepth 20000 in
theorem ggX4_fill_X0_hasRange : GoodIn wsX4_fill wsX0_hasRange := goodIn_k _ [(wsX4_fill_r1, [5, 6]), (wsX00, [0, 1])] (gk_c mi_wsX4_fill_wsX4_fill_r1 (gk_c mi_wsX4_fill_wsX00 gk_n)) rfl (by decide +kernel)
set_option maxRecDepth 20000 in
theorem gX4_fill_X0_hasRange : GoodIn wsX4_fill (wsV RX4 79 RX0 yX0_hasRange wsX0_hasRange) := goodIn_app (goodIn_k _ [(wsX4_fill_r1, [1, 2, 3, 4])] (gk_c mi_wsX4_fill_wsX4_fill_r1 gk_n) rfl (by decide +kernel)) ggX4_fill_X0_hasRange
set_option maxRecDepth 20000 in
theorem ggX4_fill_X4_isValue : GoodIn wsX4_fill wsX4_isValue := goodIn_k _ [(wsX4_fill_r1, [10])] (gk_c mi_wsX4_fill_wsX4_fill_r1 gk_n) rfl (by decide +kernel)
set_option maxRecDepth 20000 in
theorem gX4_fill_X4_isValue : GoodIn wsX4_fill (va_wsS RX4 68 yX4_isValue wsX4_isValue) := goodIn_app (goodIn_k _ [(wsX4_fill_r1, [7, 8, 9])] (gk_c mi_wsX4_fill_wsX4_fill_r1 gk_n) rfl (by decide +kernel)) ggX4_fill_X4_isValue
theorem mi_wsX4_fill_wsX4_fill_r2 : ∀ w ∈ wsX4_fill_r2, w ∈ wsX4_fill := fun _ h => (List.mem_cons_of_mem _ (List.mem_append_left _ (List.mem_append_left _ (List.mem_append_left _ (List.mem_append_left _ (List.mem_append_right _ (List.mem_append_left _ h)))))))
theorem mi_wsX4_fill_wsX4_fill_r3 : ∀ w ∈ wsX4_fill_r3, w ∈ wsX4_fill := fun _ h => (List.mem_cons_of_mem _ (List.mem_append_left _ (List.mem_append_left _ (List.mem_append_left _ (List.mem_append_left _ (List.mem_append_right _ (List.mem_append_right _ (List.mem_append_left _ h))))))))
theorem mi_wsX4_fill_wsX4_fill_r4 : ∀ w ∈ wsX4_fill_r4, w ∈ wsX4_fill := fun _ h => (List.mem_cons_of_mem _ (List.mem_append_left _ (List.mem_append_left _ (List.mem_append_left _ (List.mem_append_left _ (List.mem_append_right _ (List.mem_append_right _ (List.mem_append_right _ (List.mem_append_left _ h)))))))))
theorem mi_wsX4_fill_wsX4_fill_r5 : ∀ w ∈ wsX4_fill_r5, w ∈ wsX4_fill := fun _ h => (List.mem_cons_of_mem _ (List.mem_append_left _ (List.mem_append_left _ (List.mem_append_left _ (List.mem_append_left _ (List.mem_append_right _ (List.mem_append_right _ (List.mem_append_right _ (List.mem_append_right _ h)))))))))
theorem mi_wsX4_fill_wsX40 : ∀ w ∈ wsX40, w ∈ wsX4_fill := fun _ h => (List.mem_cons_of_mem _ (List.mem_append_left _ (List.mem_append_left _ (List.mem_append_left _ (List.mem_append_right _ h)))))
theorem mi_wsX4_fill_wsX20 : ∀ w ∈ wsX20, w ∈ wsX4_fill := fun _ h => (List.mem_cons_of_mem _ (List.mem_append_left _ (List.mem_append_right _ h)))
theorem mi_wsX4_fill_wsX30 : ∀ w ∈ wsX30, w ∈ wsX4_fill := fun _ h => (List.mem_cons_of_mem _ (List.mem_append_right _ h))
set_option maxRecDepth 20000 in
theorem ggX4_fill_X4_laidTree : GoodIn wsX4_fill wsX4_laidTree := goodIn_k _ [(wsX4_fill_r1, [14, 15, 16, 17, 18, 0, 19, 20, 21, 22, 23]), (wsX4_fill_r2, [0, 1, 2, 3, 4, 5, 6, 7, 8, 9, 10, 11, 12, 13, 14, 15, 16, 17, 18, 19, 20, 21, 22, 23]), (wsX4_fill_r3, [0, 1, 2, 3, 4, 5, 6, 7, 8, 9, 10, 11, 12, 13, 14, 15, 16, 17, 18, 19, 20, 21, 22, 23]), (wsX4_fill_r4, [0, 1, 2, 3, 4, 5, 6, 7, 8, 9, 10, 11, 12, 13, 14, 15, 16, 17, 18, 19, 20, 21, 22, 23]), (wsX4_fill_r5, [0, 1, 2, 3, 4, 5, 6, 7, 8]), (wsX40, [0, 1, 2, 3, 4, 5, 6, 7, 8]), (wsX20, [0, 1, 2, 3, 4, 5, 6, 7, 8, 9, 10]), (wsX00, [0, 1]), (wsX30, [0, 1, 2, 3, 4])] (gk_c mi_wsX4_fill_wsX4_fill_r1 (gk_c mi_wsX4_fill_wsX4_fill_r2 (gk_c mi_wsX4_fill_wsX4_fill_r3 (gk_c mi_wsX4_fill_wsX4_fill_r4 (gk_c mi_wsX4_fill_wsX4_fill_r5 (gk_c mi_wsX4_fill_wsX40 (gk_c mi_wsX4_fill_wsX20 (gk_c mi_wsX4_fill_wsX00 (gk_c mi_wsX4_fill_wsX30 gk_n))))))))) rfl (by decide +kernel)
set_option maxRecDepth 20000 in
theorem gX4_fill_X4_laidTree : GoodIn wsX4_fill (wsV RX4 71 RX4 yX4_laidTree wsX4_laidTree) := goodIn_app (goodIn_k _ [(wsX4_fill_r1, [11, 12, 13, 9])] (gk_c mi_wsX4_fill_wsX4_fill_r1 gk_n) rfl (by decide +kernel)) ggX4_fill_X4_laidTree
set_option maxRecDepth 20000 in
theorem ggX4_fill_X4_overwrite : GoodIn wsX4_fill wsX4_overwrite := goodIn_k _ [(wsX4_fill_r5, [12]), (wsX4_fill_r1, [0]), (wsX4_fill_r5, [13]), (wsX4_fill_r2, [14, 15, 16]), (wsX4_fill_r1, [23]), (wsX4_fill_r2, [17, 3, 4, 5, 18, 19, 20, 21, 22, 1, 23]), (wsX4_fill_r3, [0, 1, 2, 3, 4, 5, 6, 7, 8, 9, 10, 11, 12, 13, 14, 15, 16, 17, 18, 19, 20, 21, 22, 23]), (wsX4_fill_r2, [10, 11, 12, 13]), (wsX4_fill_r4, [0, 1, 2, 3, 4, 5, 6, 7, 8, 9, 10, 11, 12, 13, 14, 15, 16, 17, 18, 19, 20, 21, 22, 23]), (wsX4_fill_r5, [0, 1, 2, 3, 4, 5, 6, 7, 8]), (wsX40, [0, 1, 2, 3, 4, 5, 6, 7, 8]), (wsX00, [0, 1]), (wsX20, [0, 1, 2, 3, 4, 5, 6, 7, 8, 9, 10]), (wsX30, [0, 1, 2, 3, 4])] (gk_c mi_wsX4_fill_wsX4_fill_r5 (gk_c mi_wsX4_fill_wsX4_fill_r1 (gk_c mi_wsX4_fill_wsX4_fill_r5 (gk_c mi_wsX4_fill_wsX4_fill_r2 (gk_c mi_wsX4_fill_wsX4_fill_r1 (gk_c mi_wsX4_fill_wsX4_fill_r2 (gk_c mi_wsX4_fill_wsX4_fill_r3 (gk_c mi_wsX4_fill_wsX4_fill_r2 (gk_c mi_wsX4_fill_wsX4_fill_r4 (gk_c mi_wsX4_fill_wsX4_fill_r5 (gk_c mi_wsX4_fill_wsX40 (gk_c mi_wsX4_fill_wsX00 (gk_c mi_wsX4_fill_wsX20 (gk_c mi_wsX4_fill_wsX30 gk_n)))))))))))))) rfl (by decide +kernel)
set_option maxRecDepth 20000 in
theorem gX4_fill_X4_overwrite : GoodIn wsX4_fill (wsV RX4 75 RX4 yX4_overwrite wsX4_overwrite) := goodIn_app (goodIn_k _ [(wsX4_fill_r5, [9, 10, 11]), (wsX4_fill_r1, [9])] (gk_c mi_wsX4_fill_wsX4_fill_r5 (gk_c mi_wsX4_fill_wsX4_fill_r1 gk_n)) rfl (by decide +kernel)) ggX4_fill_X4_overwrite
def dt_cX4_fill_0 : List (Nat × Nat × Nat × Nat) := [(0, 42, 0, 0), (1, 180, 2, 12), (4, 27, 0, 0), (5, 28, 0, 0), (6, 182, 2, 79), (9, 153, 2, 10), (12, 29, 0, 0), (13, 184, 2, 68), (16, 154, 2, 5), (19, 2, 0, 0), (20, 172, 0, 0), (21, 42, 0, 0), (22, 42, 0, 0), (23, 182, 2, 71), (26, 27, 0, 0), (27, 28, 0, 0), (28, 29, 0, 0), (29, 182, 2, 75), (32, 172, 0, 0)]
theorem da_cX4_fill_0 : fw dt_cX4_fill_0 0 cX4_fill.data.toList = true := by decide +kernel
theorem dX4_fill_0 : decode cX4_fill 0 = .ok (.aload_n 0, 1) := fo_42 (fw_get da_cX4_fill_0 0 rfl)
theorem dX4_fill_1 : decode cX4_fill 1 = .ok (.getfield 12, 3) := fo_180 (fw_get da_cX4_fill_0 1 rfl)
theorem dX4_fill_4 : decode cX4_fill 4 = .ok (.iload_n 1, 1) := fo_27 (fw_get da_cX4_fill_0 2 rfl)
theorem dX4_fill_5 : decode cX4_fill 5 = .ok (.iload_n 2, 1) := fo_28 (fw_get da_cX4_fill_0 3 rfl)
theorem dX4_fill_6 : decode cX4_fill 6 = .ok (.invokevirtual 79, 3) := fo_182 (fw_get da_cX4_fill_0 4 rfl)
theorem dX4_fill_9 : decode cX4_fill 9 = .ok (.ifCond .eq 10, 3) := fo_153 (fw_get da_cX4_fill_0 5 rfl) (by decide +kernel)
theorem dX4_fill_12 : decode cX4_fill 12 = .ok (.iload_n 3, 1) := fo_29 (fw_get da_cX4_fill_0 6 rfl)
theorem dX4_fill_13 : decode cX4_fill 13 = .ok (.invokestatic 68, 3) := fo_184 (fw_get da_cX4_fill_0 7 rfl)
theorem dX4_fill_16 : decode cX4_fill 16 = .ok (.ifCond .ne 5, 3) := fo_154 (fw_get da_cX4_fill_0 8 rfl) (by decide +kernel)
theorem dX4_fill_19 : decode cX4_fill 19 = .ok (.iconst (-1), 1) := fo_2 (fw_get da_cX4_fill_0 9 rfl)
theorem dX4_fill_20 : decode cX4_fill 20 = .ok (.ireturn, 1) := fo_172 (fw_get da_cX4_fill_0 10 rfl)
theorem dX4_fill_21 : decode cX4_fill 21 = .ok (.aload_n 0, 1) := fo_42 (fw_get da_cX4_fill_0 11 rfl)
theorem dX4_fill_22 : decode cX4_fill 22 = .ok (.aload_n 0, 1) := fo_42 (fw_get da_cX4_fill_0 12 rfl)
theorem dX4_fill_23 : decode cX4_fill 23 = .ok (.invokevirtual 71, 3) := fo_182 (fw_get da_cX4_fill_0 13 rfl)
theorem dX4_fill_26 : decode cX4_fill 26 = .ok (.iload_n 1, 1) := fo_27 (fw_get da_cX4_fill_0 14 rfl)
theorem dX4_fill_27 : decode cX4_fill 27 = .ok (.iload_n 2, 1) := fo_28 (fw_get da_cX4_fill_0 15 rfl)
theorem dX4_fill_28 : decode cX4_fill 28 = .ok (.iload_n 3, 1) := fo_29 (fw_get da_cX4_fill_0 16 rfl)
theorem dX4_fill_29 : decode cX4_fill 29 = .ok (.invokevirtual 75, 3) := fo_182 (fw_get da_cX4_fill_0 17 rfl)
theorem dX4_fill_32 : decode cX4_fill 32 = .ok (.ireturn, 1) := fo_172 (fw_get da_cX4_fill_0 18 rfl)
theorem mi_wsX4_turn_wsX4_turn_r1 : ∀ w ∈ wsX4_turn_r1, w ∈ wsX4_turn := fun _ h => (List.mem_cons_of_mem _ (List.mem_append_left _ (List.mem_append_left _ (List.mem_append_left _ (List.mem_append_left _ (List.mem_append_left _ h))))))
theorem mi_wsX4_turn_wsX00 : ∀ w ∈ wsX00, w ∈ wsX4_turn := fun _ h => (List.mem_cons_of_mem _ (List.mem_append_left _ (List.mem_append_left _ (List.mem_append_right _ h))))
set_option maxRecDepth 20000 in
theorem ggX4_turn_X0_hasRange : GoodIn wsX4_turn wsX0_hasRange := goodIn_k _ [(wsX4_turn_r1, [5, 6]), (wsX00, [0, 1])] (gk_c mi_wsX4_turn_wsX4_turn_r1 (gk_c mi_wsX4_turn_wsX00 gk_n)) rfl (by decide +kernel)
set_option maxRecDepth 20000 in
theorem gX4_turn_X0_hasRange : GoodIn wsX4_turn (wsV RX4 79 RX0 yX0_hasRange wsX0_hasRange) := goodIn_app (goodIn_k _ [(wsX4_turn_r1, [1, 2, 3, 4])] (gk_c mi_wsX4_turn_wsX4_turn_r1 gk_n) rfl (by decide +kernel)) ggX4_turn_X0_hasRange
theorem mi_wsX4_turn_wsX4_turn_r2 : ∀ w ∈ wsX4_turn_r2, w ∈ wsX4_turn := fun _ h => (List.mem_cons_of_mem _ (List.mem_append_left _ (List.mem_append_left _ (List.mem_append_left _ (List.mem_append_left _ (List.mem_append_right _ (List.mem_append_left _ h)))))))
theorem mi_wsX4_turn_wsX4_turn_r3 : ∀ w ∈ wsX4_turn_r3, w ∈ wsX4_turn := fun _ h => (List.mem_cons_of_mem _ (List.mem_append_left _ (List.mem_append_left _ (List.mem_append_left _ (List.mem_append_left _ (List.mem_append_right _ (List.mem_append_right _ (List.mem_append_left _ h))))))))
theorem mi_wsX4_turn_wsX4_turn_r4 : ∀ w ∈ wsX4_turn_r4, w ∈ wsX4_turn := fun _ h => (List.mem_cons_of_mem _ (List.mem_append_left _ (List.mem_append_left _ (List.mem_append_left _ (List.mem_append_left _ (List.mem_append_right _ (List.mem_append_right _ (List.mem_append_right _ (List.mem_append_left _ h)))))))))
theorem mi_wsX4_turn_wsX4_turn_r5 : ∀ w ∈ wsX4_turn_r5, w ∈ wsX4_turn := fun _ h => (List.mem_cons_of_mem _ (List.mem_append_left _ (List.mem_append_left _ (List.mem_append_left _ (List.mem_append_left _ (List.mem_append_right _ (List.mem_append_right _ (List.mem_append_right _ (List.mem_append_right _ h)))))))))
theorem mi_wsX4_turn_wsX40 : ∀ w ∈ wsX40, w ∈ wsX4_turn := fun _ h => (List.mem_cons_of_mem _ (List.mem_append_left _ (List.mem_append_left _ (List.mem_append_left _ (List.mem_append_right _ h)))))
theorem mi_wsX4_turn_wsX20 : ∀ w ∈ wsX20, w ∈ wsX4_turn := fun _ h => (List.mem_cons_of_mem _ (List.mem_append_left _ (List.mem_append_right _ h)))
theorem mi_wsX4_turn_wsX30 : ∀ w ∈ wsX30, w ∈ wsX4_turn := fun _ h => (List.mem_cons_of_mem _ (List.mem_append_right _ h))
set_option maxRecDepth 20000 in
theorem ggX4_turn_X4_laidTree : GoodIn wsX4_turn wsX4_laidTree := goodIn_k _ [(wsX4_turn_r1, [11, 12, 13, 14, 15, 0, 16, 17, 18, 19, 20, 21, 22, 23]), (wsX4_turn_r2, [0, 1, 2, 3, 4, 5, 6, 7, 8, 9, 10, 11, 12, 13, 14, 15, 16, 17, 18, 19, 20, 21, 22, 23]), (wsX4_turn_r3, [0, 1, 2, 3, 4, 5, 6, 7, 8, 9, 10, 11, 12, 13, 14, 15, 16, 17, 18, 19, 20, 21, 22, 23]), (wsX4_turn_r4, [0, 1, 2, 3, 4, 5, 6, 7, 8, 9, 10, 11, 12, 13, 14, 15, 16, 17, 18, 19, 20, 21, 22, 23]), (wsX4_turn_r5, [0, 1, 2, 3, 4, 5]), (wsX40, [0, 1, 2, 3, 4, 5, 6, 7, 8]), (wsX20, [0, 1, 2, 3, 4, 5, 6, 7, 8, 9, 10]), (wsX00, [0, 1]), (wsX30, [0, 1, 2, 3, 4])] (gk_c mi_wsX4_turn_wsX4_turn_r1 (gk_c mi_wsX4_turn_wsX4_turn_r2 (gk_c mi_wsX4_turn_wsX4_turn_r3 (gk_c mi_wsX4_turn_wsX4_turn_r4 (gk_c mi_wsX4_turn_wsX4_turn_r5 (gk_c mi_wsX4_turn_wsX40 (gk_c mi_wsX4_turn_wsX20 (gk_c mi_wsX4_turn_wsX00 (gk_c mi_wsX4_turn_wsX30 gk_n))))))))) rfl (by decide +kernel)
set_option maxRecDepth 20000 in
theorem gX4_turn_X4_laidTree : GoodIn wsX4_turn (wsV RX4 71 RX4 yX4_laidTree wsX4_laidTree) := goodIn_app (goodIn_k _ [(wsX4_turn_r1, [7, 8, 9, 10])] (gk_c mi_wsX4_turn_wsX4_turn_r1 gk_n) rfl (by decide +kernel)) ggX4_turn_X4_laidTree
set_option maxRecDepth 20000 in
theorem ggX4_turn_X0_exchange : GoodIn wsX4_turn wsX0_exchange := goodIn_k _ [(wsX4_turn_r5, [9, 10]), (wsX00, [0, 1])] (gk_c mi_wsX4_turn_wsX4_turn_r5 (gk_c mi_wsX4_turn_wsX00 gk_n)) rfl (by decide +kernel)
set_option maxRecDepth 20000 in
theorem gX4_turn_X0_exchange : GoodIn wsX4_turn (wsV RX4 83 RX0 yX0_exchange wsX0_exchange) := goodIn_app (goodIn_k _ [(wsX4_turn_r5, [6, 7, 8]), (wsX4_turn_r1, [4])] (gk_c mi_wsX4_turn_wsX4_turn_r5 (gk_c mi_wsX4_turn_wsX4_turn_r1 gk_n)) rfl (by decide +kernel)) ggX4_turn_X0_exchange
set_option maxRecDepth 20000 in
theorem ggX4_turn_X2_renew : GoodIn wsX4_turn wsX2_renew := goodIn_k _ [(wsX4_turn_r2, [14, 0, 1, 2, 15, 16, 17]), (wsX4_turn_r1, [20]), (wsX4_turn_r2, [18, 19]), (wsX4_turn_r1, [22]), (wsX4_turn_r2, [20, 21, 22, 23]), (wsX4_turn_r3, [0, 1, 2, 3, 4, 5, 6, 7, 8, 9, 10, 11, 12, 13, 14, 15, 16, 17, 18, 19, 20]), (wsX4_turn_r2, [7, 8, 9, 10]), (wsX4_turn_r3, [21, 22, 23]), (wsX4_turn_r4, [0, 1, 2, 3, 4, 5, 6, 7, 8, 9, 10, 11, 12, 13, 14, 15, 16, 17, 18, 19, 20, 21, 22, 23]), (wsX4_turn_r5, [0, 1, 2, 3, 4, 5]), (wsX20, [0, 1, 2, 3, 4, 5, 6, 7, 8, 9, 10]), (wsX00, [0, 1]), (wsX30, [0, 1, 2, 3, 4])] (gk_c mi_wsX4_turn_wsX4_turn_r2 (gk_c mi_wsX4_turn_wsX4_turn_r1 (gk_c mi_wsX4_turn_wsX4_turn_r2 (gk_c mi_wsX4_turn_wsX4_turn_r1 (gk_c mi_wsX4_turn_wsX4_turn_r2 (gk_c mi_wsX4_turn_wsX4_turn_r3 (gk_c mi_wsX4_turn_wsX4_turn_r2 (gk_c mi_wsX4_turn_wsX4_turn_r3 (gk_c mi_wsX4_turn_wsX4_turn_r4 (gk_c mi_wsX4_turn_wsX4_turn_r5 (gk_c mi_wsX4_turn_wsX20 (gk_c mi_wsX4_turn_wsX00 (gk_c mi_wsX4_turn_wsX30 gk_n))))))))))))) rfl (by decide +kernel)
set_option maxRecDepth 20000 in
theorem gX4_turn_X2_renew : GoodIn wsX4_turn (wsV RX4 87 RX2 yX2_renew wsX2_renew) := goodIn_app (goodIn_k _ [(wsX4_turn_r2, [11, 12, 13]), (wsX4_turn_r1, [20])] (gk_c mi_wsX4_turn_wsX4_turn_r2 (gk_c mi_wsX4_turn_wsX4_turn_r1 gk_n)) rfl (by decide +kernel)) ggX4_turn_X2_renew
def dt_cX4_turn_0 : List (Nat × Nat × Nat × Nat) := [(0, 42, 0, 0), (1, 180, 2, 12), (4, 27, 0, 0), (5, 28, 0, 0), (6, 182, 2, 79), (9, 154, 2, 5), (12, 2, 0, 0), (13, 172, 0, 0), (14, 42, 0, 0), (15, 182, 2, 71), (18, 78, 0, 0), (19, 27, 0, 0), (20, 54, 1, 4), (22, 28, 0, 0), (23, 4, 0, 0), (24, 100, 0, 0), (25, 54, 1, 5), (27, 21, 1, 4), (29, 21, 1, 5), (31, 162, 2, 23)]
theorem da_cX4_turn_0 : fw dt_cX4_turn_0 0 cX4_turn.data.toList = true := by decide +kernel
theorem dX4_turn_0 : decode cX4_turn 0 = .ok (.aload_n 0, 1) := fo_42 (fw_get da_cX4_turn_0 0 rfl)
theorem dX4_turn_1 : decode cX4_turn 1 = .ok (.getfield 12, 3) := fo_180 (fw_get da_cX4_turn_0 1 rfl)
theorem dX4_turn_4 : decode cX4_turn 4 = .ok (.iload_n 1, 1) := fo_27 (fw_get da_cX4_turn_0 2 rfl)
theorem dX4_turn_5 : decode cX4_turn 5 = .ok (.iload_n 2, 1) := fo_28 (fw_get da_cX4_turn_0 3 rfl)
theorem dX4_turn_6 : decode cX4_turn 6 = .ok (.invokevirtual 79, 3) := fo_182 (fw_get da_cX4_turn_0 4 rfl)
theorem dX4_turn_9 : decode cX4_turn 9 = .ok (.ifCond .ne 5, 3) := fo_154 (fw_get da_cX4_turn_0 5 rfl) (by decide +kernel)
theorem dX4_turn_12 : decode cX4_turn 12 = .ok (.iconst (-1), 1) := fo_2 (fw_get da_cX4_turn_0 6 rfl)
theorem dX4_turn_13 : decode cX4_turn 13 = .ok (.ireturn, 1) := fo_172 (fw_get da_cX4_turn_0 7 rfl)
theorem dX4_turn_14 : decode cX4_turn 14 = .ok (.aload_n 0, 1) := fo_42 (fw_get da_cX4_turn_0 8 rfl)
theorem dX4_turn_15 : decode cX4_turn 15 = .ok (.invokevirtual 71, 3) := fo_182 (fw_get da_cX4_turn_0 9 rfl)
theorem dX4_turn_18 : decode cX4_turn 18 = .ok (.astore_n 3, 1) := fo_78 (fw_get da_cX4_turn_0 10 rfl)
theorem dX4_turn_19 : decode cX4_turn 19 = .ok (.iload_n 1, 1) := fo_27 (fw_get da_cX4_turn_0 11 rfl)
theorem dX4_turn_20 : decode cX4_turn 20 = .ok (.istore 4, 2) := fo_54 (fw_get da_cX4_turn_0 12 rfl)
theorem dX4_turn_22 : decode cX4_turn 22 = .ok (.iload_n 2, 1) := fo_28 (fw_get da_cX4_turn_0 13 rfl)
theorem dX4_turn_23 : decode cX4_turn 23 = .ok (.iconst 1, 1) := fo_4 (fw_get da_cX4_turn_0 14 rfl)
theorem dX4_turn_24 : decode cX4_turn 24 = .ok (.isub, 1) := fo_100 (fw_get da_cX4_turn_0 15 rfl)
theorem dX4_turn_25 : decode cX4_turn 25 = .ok (.istore 5, 2) := fo_54 (fw_get da_cX4_turn_0 16 rfl)
theorem dX4_turn_27 : decode cX4_turn 27 = .ok (.iload 4, 2) := fo_21 (fw_get da_cX4_turn_0 17 rfl)
theorem dX4_turn_29 : decode cX4_turn 29 = .ok (.iload 5, 2) := fo_21 (fw_get da_cX4_turn_0 18 rfl)
theorem dX4_turn_31 : decode cX4_turn 31 = .ok (.if_icmp .ge 23, 3) := fo_162 (fw_get da_cX4_turn_0 19 rfl) (by decide +kernel)
def dt_cX4_turn_1 : List (Nat × Nat × Nat × Nat) := [(34, 42, 0, 0), (35, 180, 2, 12), (38, 21, 1, 4), (40, 21, 1, 5), (42, 182, 2, 83), (45, 132, 2, 1025), (48, 132, 2, 1535), (51, 167, 2, 65512), (54, 45, 0, 0), (55, 27, 0, 0), (56, 28, 0, 0), (57, 182, 2, 87), (60, 172, 0, 0)]
theorem da_cX4_turn_1 : fw dt_cX4_turn_1 0 cX4_turn.data.toList = true := by decide +kernel
theorem dX4_turn_34 : decode cX4_turn 34 = .ok (.aload_n 0, 1) := fo_42 (fw_get da_cX4_turn_1 0 rfl)
theorem dX4_turn_35 : decode cX4_turn 35 = .ok (.getfield 12, 3) := fo_180 (fw_get da_cX4_turn_1 1 rfl)
theorem dX4_turn_38 : decode cX4_turn 38 = .ok (.iload 4, 2) := fo_21 (fw_get da_cX4_turn_1 2 rfl)
theorem dX4_turn_40 : decode cX4_turn 40 = .ok (.iload 5, 2) := fo_21 (fw_get da_cX4_turn_1 3 rfl)
theorem dX4_turn_42 : decode cX4_turn 42 = .ok (.invokevirtual 83, 3) := fo_182 (fw_get da_cX4_turn_1 4 rfl)
theorem dX4_turn_45 : decode cX4_turn 45 = .ok (.iinc 4 1, 3) := fo_132 (fw_get da_cX4_turn_1 5 rfl) rfl (by decide +kernel)
theorem dX4_turn_48 : decode cX4_turn 48 = .ok (.iinc 5 (-1), 3) := fo_132 (fw_get da_cX4_turn_1 6 rfl) rfl (by decide +kernel)
theorem dX4_turn_51 : decode cX4_turn 51 = .ok (.goto (-24), 3) := fo_167 (fw_get da_cX4_turn_1 7 rfl) (by decide +kernel)
theorem dX4_turn_54 : decode cX4_turn 54 = .ok (.aload_n 3, 1) := fo_45 (fw_get da_cX4_turn_1 8 rfl)
theorem dX4_turn_55 : decode cX4_turn 55 = .ok (.iload_n 1, 1) := fo_27 (fw_get da_cX4_turn_1 9 rfl)
theorem dX4_turn_56 : decode cX4_turn 56 = .ok (.iload_n 2, 1) := fo_28 (fw_get da_cX4_turn_1 10 rfl)
theorem dX4_turn_57 : decode cX4_turn 57 = .ok (.invokevirtual 87, 3) := fo_182 (fw_get da_cX4_turn_1 11 rfl)
theorem dX4_turn_60 : decode cX4_turn 60 = .ok (.ireturn, 1) := fo_172 (fw_get da_cX4_turn_1 12 rfl)
theorem mi_wsX4_swap_wsX4_swap_r1 : ∀ w ∈ wsX4_swap_r1, w ∈ wsX4_swap := fun _ h => (List.mem_cons_of_mem _ (List.mem_append_left _ (List.mem_append_left _ (List.mem_append_left _ (List.mem_append_left _ (List.mem_append_left _ h))))))
theorem mi_wsX4_swap_wsX00 : ∀ w ∈ wsX00, w ∈ wsX4_swap := fun _ h => (List.mem_cons_of_mem _ (List.mem_append_left _ (List.mem_append_left _ (List.mem_append_right _ h))))
set_option maxRecDepth 20000 in
theorem ggX4_swap_X0_hasPlace : GoodIn wsX4_swap wsX0_hasPlace := goodIn_k _ [(wsX4_swap_r1, [12, 13]), (wsX00, [0, 1])] (gk_c mi_wsX4_swap_wsX4_swap_r1 (gk_c mi_wsX4_swap_wsX00 gk_n)) rfl (by decide +kernel)
set_option maxRecDepth 20000 in
theorem gX4_swap_X0_hasPlace : GoodIn wsX4_swap (wsV RX4 64 RX0 yX0_hasPlace wsX0_hasPlace) := goodIn_app (goodIn_k _ [(wsX4_swap_r1, [8, 9, 10, 11])] (gk_c mi_wsX4_swap_wsX4_swap_r1 gk_n) rfl (by decide +kernel)) ggX4_swap_X0_hasPlace
theorem mi_wsX4_swap_wsX4_swap_r2 : ∀ w ∈ wsX4_swap_r2, w ∈ wsX4_swap := fun _ h => (List.mem_cons_of_mem _ (List.mem_append_left _ (List.mem_append_left _ (List.mem_append_left _ (List.mem_append_left _ (List.mem_append_right _ (List.mem_append_left _ h)))))))
theorem mi_wsX4_swap_wsX4_swap_r3 : ∀ w ∈ wsX4_swap_r3, w ∈ wsX4_swap := fun _ h => (List.mem_cons_of_mem _ (List.mem_append_left _ (List.mem_append_left _ (List.mem_append_left _ (List.mem_append_left _ (List.mem_append_right _ (List.mem_append_right _ (List.mem_append_left _ h))))))))
theorem mi_wsX4_swap_wsX4_swap_r4 : ∀ w ∈ wsX4_swap_r4, w ∈ wsX4_swap := fun _ h => (List.mem_cons_of_mem _ (List.mem_append_left _ (List.mem_append_left _ (List.mem_append_left _ (List.mem_append_left _ (List.mem_append_right _ (List.mem_append_right _ (List.mem_append_right _ (List.mem_append_left _ h)))))))))
theorem mi_wsX4_swap_wsX4_swap_r5 : ∀ w ∈ wsX4_swap_r5, w ∈ wsX4_swap := fun _ h => (List.mem_cons_of_mem _ (List.mem_append_left _ (List.mem_append_left _ (List.mem_append_left _ (List.mem_append_left _ (List.mem_append_right _ (List.mem_append_right _ (List.mem_append_right _ (List.mem_append_right _ h)))))))))
theorem mi_wsX4_swap_wsX40 : ∀ w ∈ wsX40, w ∈ wsX4_swap := fun _ h => (List.mem_cons_of_mem _ (List.mem_append_left _ (List.mem_append_left _ (List.mem_append_left _ (List.mem_append_right _ h)))))
theorem mi_wsX4_swap_wsX20 : ∀ w ∈ wsX20, w ∈ wsX4_swap := fun _ h => (List.mem_cons_of_mem _ (List.mem_append_left _ (List.mem_append_right _ h)))
theorem mi_wsX4_swap_wsX30 : ∀ w ∈ wsX30, w ∈ wsX4_swap := fun _ h => (List.mem_cons_of_mem _ (List.mem_append_right _ h))
set_option maxRecDepth 20000 in
theorem ggX4_swap_X4_laidTree : GoodIn wsX4_swap wsX4_laidTree := goodIn_k _ [(wsX4_swap_r1, [18, 19, 20, 21, 22, 0, 23]), (wsX4_swap_r2, [0, 1, 2, 3, 4, 5, 6, 7, 8, 9, 10, 11, 12, 13, 14, 15, 16, 17, 18, 19, 20, 21, 22, 23]), (wsX4_swap_r3, [0, 1, 2, 3, 4, 5, 6, 7, 8, 9, 10, 11, 12, 13, 14, 15, 16, 17, 18, 19, 20, 21, 22, 23]), (wsX4_swap_r4, [0, 1, 2, 3, 4, 5, 6, 7, 8, 9, 10, 11, 12, 13, 14, 15, 16, 17, 18, 19, 20, 21, 22, 23]), (wsX4_swap_r5, [0, 1, 2, 3, 4, 5, 6, 7]), (wsX4_swap_r1, [2, 3, 4]), (wsX4_swap_r5, [8, 9]), (wsX40, [0, 1, 2, 3, 4, 5, 6, 7, 8]), (wsX20, [0, 1, 2, 3, 4, 5, 6, 7, 8, 9, 10]), (wsX00, [0, 1]), (wsX30, [0, 1, 2, 3, 4])] (gk_c mi_wsX4_swap_wsX4_swap_r1 (gk_c mi_wsX4_swap_wsX4_swap_r2 (gk_c mi_wsX4_swap_wsX4_swap_r3 (gk_c mi_wsX4_swap_wsX4_swap_r4 (gk_c mi_wsX4_swap_wsX4_swap_r5 (gk_c mi_wsX4_swap_wsX4_swap_r1 (gk_c mi_wsX4_swap_wsX4_swap_r5 (gk_c mi_wsX4_swap_wsX40 (gk_c mi_wsX4_swap_wsX20 (gk_c mi_wsX4_swap_wsX00 (gk_c mi_wsX4_swap_wsX30 gk_n))))))))))) rfl (by decide +kernel)
set_option maxRecDepth 20000 in
theorem gX4_swap_X4_laidTree : GoodIn wsX4_swap (wsV RX4 71 RX4 yX4_laidTree wsX4_laidTree) := goodIn_app (goodIn_k _ [(wsX4_swap_r1, [14, 15, 16, 17])] (gk_c mi_wsX4_swap_wsX4_swap_r1 gk_n) rfl (by decide +kernel)) ggX4_swap_X4_laidTree
set_option maxRecDepth 20000 in
theorem ggX4_swap_X0_exchange : GoodIn wsX4_swap wsX0_exchange := goodIn_k _ [(wsX4_swap_r5, [13, 14]), (wsX00, [0, 1])] (gk_c mi_wsX4_swap_wsX4_swap_r5 (gk_c mi_wsX4_swap_wsX00 gk_n)) rfl (by decide +kernel)
set_option maxRecDepth 20000 in
theorem gX4_swap_X0_exchange : GoodIn wsX4_swap (wsV RX4 83 RX0 yX0_exchange wsX0_exchange) := goodIn_app (goodIn_k _ [(wsX4_swap_r5, [10, 11, 12]), (wsX4_swap_r1, [11])] (gk_c mi_wsX4_swap_wsX4_swap_r5 (gk_c mi_wsX4_swap_wsX4_swap_r1 gk_n)) rfl (by decide +kernel)) ggX4_swap_X0_exchange
set_option maxRecDepth 20000 in
theorem ggX4_swap_X2_renew : GoodIn wsX4_swap wsX2_renew := goodIn_k _ [(wsX4_swap_r2, [21, 7, 8, 9, 22, 23]), (wsX4_swap_r3, [0]), (wsX4_swap_r2, [3]), (wsX4_swap_r3, [1, 2]), (wsX4_swap_r2, [5]), (wsX4_swap_r3, [3, 4, 5, 6, 7, 8, 9, 10, 11, 12, 13, 14, 15, 16, 17, 18, 19, 20, 21, 22, 23]), (wsX4_swap_r4, [0, 1, 2, 3]), (wsX4_swap_r2, [14, 15, 16, 17]), (wsX4_swap_r4, [4, 5, 6, 7, 8, 9, 10, 11, 12, 13, 14, 15, 16, 17, 18, 19, 20, 21, 22, 23]), (wsX4_swap_r5, [0, 1, 2, 3, 4, 5, 6, 7]), (wsX4_swap_r1, [2, 3, 4]), (wsX4_swap_r5, [8, 9]), (wsX20, [0, 1, 2, 3, 4, 5, 6, 7, 8, 9, 10]), (wsX00, [0, 1]), (wsX30, [0, 1, 2, 3, 4])] (gk_c mi_wsX4_swap_wsX4_swap_r2 (gk_c mi_wsX4_swap_wsX4_swap_r3 (gk_c mi_wsX4_swap_wsX4_swap_r2 (gk_c mi_wsX4_swap_wsX4_swap_r3 (gk_c mi_wsX4_swap_wsX4_swap_r2 (gk_c mi_wsX4_swap_wsX4_swap_r3 (gk_c mi_wsX4_swap_wsX4_swap_r4 (gk_c mi_wsX4_swap_wsX4_swap_r2 (gk_c mi_wsX4_swap_wsX4_swap_r4 (gk_c mi_wsX4_swap_wsX4_swap_r5 (gk_c mi_wsX4_swap_wsX4_swap_r1 (gk_c mi_wsX4_swap_wsX4_swap_r5 (gk_c mi_wsX4_swap_wsX20 (gk_c mi_wsX4_swap_wsX00 (gk_c mi_wsX4_swap_wsX30 gk_n))))))))))))))) rfl (by decide +kernel)
set_option maxRecDepth 20000 in
theorem gX4_swap_X2_renew : GoodIn wsX4_swap (wsV RX4 87 RX2 yX2_renew wsX2_renew) := goodIn_app (goodIn_k _ [(wsX4_swap_r2, [18, 19, 20, 3])] (gk_c mi_wsX4_swap_wsX4_swap_r2 gk_n) rfl (by decide +kernel)) ggX4_swap_X2_renew
def dt_cX4_swap_0 : List (Nat × Nat × Nat × Nat) := [(0, 42, 0, 0), (1, 180, 2, 12), (4, 27, 0, 0), (5, 182, 2, 64), (8, 153, 2, 14), (11, 42, 0, 0), (12, 180, 2, 12), (15, 28, 0, 0), (16, 182, 2, 64), (19, 154, 2, 5), (22, 2, 0, 0), (23, 172, 0, 0), (24, 42, 0, 0), (25, 182, 2, 71), (28, 78, 0, 0), (29, 42, 0, 0), (30, 180, 2, 12), (33, 27, 0, 0), (34, 28, 0, 0), (35, 182, 2, 83)]
theorem da_cX4_swap_0 : fw dt_cX4_swap_0 0 cX4_swap.data.toList = true := by decide +kernel
theorem dX4_swap_0 : decode cX4_swap 0 = .ok (.aload_n 0, 1) := fo_42 (fw_get da_cX4_swap_0 0 rfl)
theorem dX4_swap_1 : decode cX4_swap 1 = .ok (.getfield 12, 3) := fo_180 (fw_get da_cX4_swap_0 1 rfl)
theorem dX4_swap_4 : decode cX4_swap 4 = .ok (.iload_n 1, 1) := fo_27 (fw_get da_cX4_swap_0 2 rfl)
theorem dX4_swap_5 : decode cX4_swap 5 = .ok (.invokevirtual 64, 3) := fo_182 (fw_get da_cX4_swap_0 3 rfl)
theorem dX4_swap_8 : decode cX4_swap 8 = .ok (.ifCond .eq 14, 3) := fo_153 (fw_get da_cX4_swap_0 4 rfl) (by decide +kernel)
theorem dX4_swap_11 : decode cX4_swap 11 = .ok (.aload_n 0, 1) := fo_42 (fw_get da_cX4_swap_0 5 rfl)
theorem dX4_swap_12 : decode cX4_swap 12 = .ok (.getfield 12, 3) := fo_180 (fw_get da_cX4_swap_0 6 rfl)
theorem dX4_swap_15 : decode cX4_swap 15 = .ok (.iload_n 2, 1) := fo_28 (fw_get da_cX4_swap_0 7 rfl)
theorem dX4_swap_16 : decode cX4_swap 16 = .ok (.invokevirtual 64, 3) := fo_182 (fw_get da_cX4_swap_0 8 rfl)
theorem dX4_swap_19 : decode cX4_swap 19 = .ok (.ifCond .ne 5, 3) := fo_154 (fw_get da_cX4_swap_0 9 rfl) (by decide +kernel)
theorem dX4_swap_22 : decode cX4_swap 22 = .ok (.iconst (-1), 1) := fo_2 (fw_get da_cX4_swap_0 10 rfl)
theorem dX4_swap_23 : decode cX4_swap 23 = .ok (.ireturn, 1) := fo_172 (fw_get da_cX4_swap_0 11 rfl)
theorem dX4_swap_24 : decode cX4_swap 24 = .ok (.aload_n 0, 1) := fo_42 (fw_get da_cX4_swap_0 12 rfl)
theorem dX4_swap_25 : decode cX4_swap 25 = .ok (.invokevirtual 71, 3) := fo_182 (fw_get da_cX4_swap_0 13 rfl)
theorem dX4_swap_28 : decode cX4_swap 28 = .ok (.astore_n 3, 1) := fo_78 (fw_get da_cX4_swap_0 14 rfl)
theorem dX4_swap_29 : decode cX4_swap 29 = .ok (.aload_n 0, 1) := fo_42 (fw_get da_cX4_swap_0 15 rfl)
theorem dX4_swap_30 : decode cX4_swap 30 = .ok (.getfield 12, 3) := fo_180 (fw_get da_cX4_swap_0 16 rfl)
theorem dX4_swap_33 : decode cX4_swap 33 = .ok (.iload_n 1, 1) := fo_27 (fw_get da_cX4_swap_0 17 rfl)
theorem dX4_swap_34 : decode cX4_swap 34 = .ok (.iload_n 2, 1) := fo_28 (fw_get da_cX4_swap_0 18 rfl)
theorem dX4_swap_35 : decode cX4_swap 35 = .ok (.invokevirtual 83, 3) := fo_182 (fw_get da_cX4_swap_0 19 rfl)
def dt_cX4_swap_1 : List (Nat × Nat × Nat × Nat) := [(38, 45, 0, 0), (39, 27, 0, 0), (40, 28, 0, 0), (41, 184, 2, 91), (44, 27, 0, 0), (45, 28, 0, 0), (46, 184, 2, 96), (49, 4, 0, 0), (50, 96, 0, 0), (51, 182, 2, 87), (54, 172, 0, 0)]
theorem da_cX4_swap_1 : fw dt_cX4_swap_1 0 cX4_swap.data.toList = true := by decide +kernel
theorem dX4_swap_38 : decode cX4_swap 38 = .ok (.aload_n 3, 1) := fo_45 (fw_get da_cX4_swap_1 0 rfl)
theorem dX4_swap_39 : decode cX4_swap 39 = .ok (.iload_n 1, 1) := fo_27 (fw_get da_cX4_swap_1 1 rfl)
theorem dX4_swap_40 : decode cX4_swap 40 = .ok (.iload_n 2, 1) := fo_28 (fw_get da_cX4_swap_1 2 rfl)
theorem dX4_swap_41 : decode cX4_swap 41 = .ok (.invokestatic 91, 3) := fo_184 (fw_get da_cX4_swap_1 3 rfl)
theorem dX4_swap_44 : decode cX4_swap 44 = .ok (.iload_n 1, 1) := fo_27 (fw_get da_cX4_swap_1 4 rfl)
theorem dX4_swap_45 : decode cX4_swap 45 = .ok (.iload_n 2, 1) := fo_28 (fw_get da_cX4_swap_1 5 rfl)
theorem dX4_swap_46 : decode cX4_swap 46 = .ok (.invokestatic 96, 3) := fo_184 (fw_get da_cX4_swap_1 6 rfl)
theorem dX4_swap_49 : decode cX4_swap 49 = .ok (.iconst 1, 1) := fo_4 (fw_get da_cX4_swap_1 7 rfl)
theorem dX4_swap_50 : decode cX4_swap 50 = .ok (.iadd, 1) := fo_96 (fw_get da_cX4_swap_1 8 rfl)
theorem dX4_swap_51 : decode cX4_swap 51 = .ok (.invokevirtual 87, 3) := fo_182 (fw_get da_cX4_swap_1 9 rfl)
theorem dX4_swap_54 : decode cX4_swap 54 = .ok (.ireturn, 1) := fo_172 (fw_get da_cX4_swap_1 10 rfl)
theorem mi_wsX4_least_wsX4_least_r1 : ∀ w ∈ wsX4_least_r1, w ∈ wsX4_least := fun _ h => (List.mem_cons_of_mem _ (List.mem_append_left _ (List.mem_append_left _ (List.mem_append_left _ (List.mem_append_left _ (List.mem_append_left _ h))))))
theorem mi_wsX4_least_wsX00 : ∀ w ∈ wsX00, w ∈ wsX4_least := fun _ h => (List.mem_cons_of_mem _ (List.mem_append_left _ (List.mem_append_right _ h)))
set_option maxRecDepth 20000 in
theorem ggX4_least_X0_hasRange : GoodIn wsX4_least wsX0_hasRange := goodIn_k _ [(wsX4_least_r1, [7, 8]), (wsX00, [0, 1])] (gk_c mi_wsX4_least_wsX4_least_r1 (gk_c mi_wsX4_least_wsX00 gk_n)) rfl (by decide +kernel)
set_option maxRecDepth 20000 in
theorem gX4_least_X0_hasRange : GoodIn wsX4_least (wsV RX4 79 RX0 yX0_hasRange wsX0_hasRange) := goodIn_app (goodIn_k _ [(wsX4_least_r1, [3, 4, 5, 6])] (gk_c mi_wsX4_least_wsX4_least_r1 gk_n) rfl (by decide +kernel)) ggX4_least_X0_hasRange
set_option maxRecDepth 20000 in
theorem ggX4_least_X4_isShare : GoodIn wsX4_least wsX4_isShare := goodIn_k _ [(wsX4_least_r1, [12])] (gk_c mi_wsX4_least_wsX4_least_r1 gk_n) rfl (by decide +kernel)
set_option maxRecDepth 20000 in
theorem gX4_least_X4_isShare : GoodIn wsX4_least (va_wsS RX4 186 yX4_isShare wsX4_isShare) := goodIn_app (goodIn_k _ [(wsX4_least_r1, [9, 10, 11])] (gk_c mi_wsX4_least_wsX4_least_r1 gk_n) rfl (by decide +kernel)) ggX4_least_X4_isShare
theorem mi_wsX4_least_wsX4_least_r2 : ∀ w ∈ wsX4_least_r2, w ∈ wsX4_least := fun _ h => (List.mem_cons_of_mem _ (List.mem_append_left _ (List.mem_append_left _ (List.mem_append_left _ (List.mem_append_left _ (List.mem_append_right _ (List.mem_append_left _ h)))))))
theorem mi_wsX4_least_wsX40 : ∀ w ∈ wsX40, w ∈ wsX4_least := fun _ h => (List.mem_cons_of_mem _ (List.mem_append_left _ (List.mem_append_left _ (List.mem_append_left _ (List.mem_append_right _ h)))))
set_option maxRecDepth 20000 in
theorem ggX4_least_X4_heavyValues : GoodIn wsX4_least wsX4_heavyValues := goodIn_k _ [(wsX4_least_r1, [16, 0, 17, 18, 19, 20, 6, 21, 22, 23]), (wsX4_least_r2, [0]), (wsX4_least_r1, [11]), (wsX4_least_r2, [1]), (wsX40, [0, 1, 2, 3, 4, 5, 6, 7, 8]), (wsX00, [0, 1])] (gk_c mi_wsX4_least_wsX4_least_r1 (gk_c mi_wsX4_least_wsX4_least_r2 (gk_c mi_wsX4_least_wsX4_least_r1 (gk_c mi_wsX4_least_wsX4_least_r2 (gk_c mi_wsX4_least_wsX40 (gk_c mi_wsX4_least_wsX00 gk_n)))))) rfl (by decide +kernel)
set_option maxRecDepth 20000 in
theorem gX4_least_X4_heavyValues : GoodIn wsX4_least (wsV RX4 196 RX4 yX4_heavyValues wsX4_heavyValues) := goodIn_app (goodIn_k _ [(wsX4_least_r1, [13, 14, 15, 11])] (gk_c mi_wsX4_least_wsX4_least_r1 gk_n) rfl (by decide +kernel)) ggX4_least_X4_heavyValues
theorem mi_wsX4_least_wsX4_least_r3 : ∀ w ∈ wsX4_least_r3, w ∈ wsX4_least := fun _ h => (List.mem_cons_of_mem _ (List.mem_append_left _ (List.mem_append_left _ (List.mem_append_left _ (List.mem_append_left _ (List.mem_append_right _ (List.mem_append_right _ (List.mem_append_left _ h))))))))
theorem mi_wsX4_least_wsX4_least_r4 : ∀ w ∈ wsX4_least_r4, w ∈ wsX4_least := fun _ h => (List.mem_cons_of_mem _ (List.mem_append_left _ (List.mem_append_left _ (List.mem_append_left _ (List.mem_append_left _ (List.mem_append_right _ (List.mem_append_right _ (List.mem_append_right _ (List.mem_append_left _ h)))))))))
theorem mi_wsX4_least_wsX4_least_r5 : ∀ w ∈ wsX4_least_r5, w ∈ wsX4_least := fun _ h => (List.mem_cons_of_mem _ (List.mem_append_left _ (List.mem_append_left _ (List.mem_append_left _ (List.mem_append_left _ (List.mem_append_right _ (List.mem_append_right _ (List.mem_append_right _ (List.mem_append_right _ (List.mem_append_left _ h))))))))))
theorem mi_wsX4_least_wsX20 : ∀ w ∈ wsX20, w ∈ wsX4_least := fun _ h => (List.mem_cons_of_mem _ (List.mem_append_left _ (List.mem_append_left _ (List.mem_append_right _ h))))
theorem mi_wsX4_least_wsX30 : ∀ w ∈ wsX30, w ∈ wsX4_least := fun _ h => (List.mem_cons_of_mem _ (List.mem_append_right _ h))
set_option maxRecDepth 20000 in
theorem ggX4_least_X4_laidTree : GoodIn wsX4_least wsX4_laidTree := goodIn_k _ [(wsX4_least_r2, [5, 6, 7]), (wsX4_least_r1, [1, 2, 0]), (wsX4_least_r2, [8, 9, 10, 11, 12, 13, 14, 15, 16, 17, 18, 19, 20, 21, 22, 23]), (wsX4_least_r3, [0, 1, 2, 3, 4, 5, 6, 7, 8, 9, 10, 11, 12, 13, 14, 15, 16, 17, 18, 19, 20, 21, 22, 23]), (wsX4_least_r4, [0, 1, 2, 3, 4, 5, 6, 7, 8, 9, 10, 11, 12, 13, 14, 15, 16, 17, 18, 19, 20, 21, 22, 23]), (wsX4_least_r5, [0, 1, 2, 3, 4, 5, 6, 7, 8, 9, 10, 11, 12, 13, 14, 15, 16, 17, 18, 19, 20, 21]), (wsX40, [0, 1, 2, 3, 4, 5, 6, 7, 8]), (wsX20, [0, 1, 2, 3, 4, 5, 6, 7, 8, 9, 10]), (wsX00, [0, 1]), (wsX30, [0, 1, 2, 3, 4])] (gk_c mi_wsX4_least_wsX4_least_r2 (gk_c mi_wsX4_least_wsX4_least_r1 (gk_c mi_wsX4_least_wsX4_least_r2 (gk_c mi_wsX4_least_wsX4_least_r3 (gk_c mi_wsX4_least_wsX4_least_r4 (gk_c mi_wsX4_least_wsX4_least_r5 (gk_c mi_wsX4_least_wsX40 (gk_c mi_wsX4_least_wsX20 (gk_c mi_wsX4_least_wsX00 (gk_c mi_wsX4_least_wsX30 gk_n)))))))))) rfl (by decide +kernel)
set_option maxRecDepth 20000 in
theorem gX4_least_X4_laidTree : GoodIn wsX4_least (wsV RX4 71 RX4 yX4_laidTree wsX4_laidTree) := goodIn_app (goodIn_k _ [(wsX4_least_r2, [2, 3, 4]), (wsX4_least_r1, [11])] (gk_c mi_wsX4_least_wsX4_least_r2 (gk_c mi_wsX4_least_wsX4_least_r1 gk_n)) rfl (by decide +kernel)) ggX4_least_X4_laidTree
theorem mi_wsX4_least_wsX4_least_r6 : ∀ w ∈ wsX4_least_r6, w ∈ wsX4_least := fun _ h => (List.mem_cons_of_mem _ (List.mem_append_left _ (List.mem_append_left _ (List.mem_append_left _ (List.mem_append_left _ (List.mem_append_right _ (List.mem_append_right _ (List.mem_append_right _ (List.mem_append_right _ (List.mem_append_right _ h))))))))))
set_option maxRecDepth 20000 in
theorem ggX4_least_X4_heavyVotesBy : GoodIn wsX4_least wsX4_heavyVotesBy := goodIn_k _ [(wsX4_least_r6, [1]), (wsX4_least_r1, [2]), (wsX4_least_r6, [2, 3]), (wsX4_least_r1, [0]), (wsX4_least_r6, [4]), (wsX4_least_r3, [3, 4, 5]), (wsX4_least_r2, [12]), (wsX4_least_r3, [6]), (wsX4_least_r2, [16, 17, 18]), (wsX4_least_r3, [7, 8, 9, 10, 11]), (wsX4_least_r2, [14]), (wsX4_least_r3, [12, 13, 14, 15, 16, 17, 18, 19, 20, 21, 22, 23]), (wsX4_least_r4, [0, 1, 2, 3, 4, 5, 6, 7, 8, 9, 10, 11, 12]), (wsX4_least_r2, [23]), (wsX4_least_r3, [0, 1, 2]), (wsX4_least_r4, [13, 14, 15, 16, 17, 18, 19, 20, 21, 22, 23]), (wsX4_least_r5, [0, 1, 2, 3, 4, 5, 6, 7, 8, 9, 10, 11, 12, 13, 14, 15, 16, 17, 18, 19, 20, 21]), (wsX4_least_r6, [5, 6, 7, 8, 9, 10, 11, 12]), (wsX4_least_r1, [18, 19, 20, 6, 21, 22, 23]), (wsX4_least_r2, [0]), (wsX4_least_r1, [11]), (wsX4_least_r2, [1]), (wsX20, [0, 1, 2, 3, 4, 5, 6, 7, 8, 9, 10]), (wsX40, [0, 1, 2, 3, 4, 5, 6, 7, 8]), (wsX30, [0, 1, 2, 3, 4]), (wsX00, [0, 1])] (gk_c mi_wsX4_least_wsX4_least_r6 (gk_c mi_wsX4_least_wsX4_least_r1 (gk_c mi_wsX4_least_wsX4_least_r6 (gk_c mi_wsX4_least_wsX4_least_r1 (gk_c mi_wsX4_least_wsX4_least_r6 (gk_c mi_wsX4_least_wsX4_least_r3 (gk_c mi_wsX4_least_wsX4_least_r2 (gk_c mi_wsX4_least_wsX4_least_r3 (gk_c mi_wsX4_least_wsX4_least_r2 (gk_c mi_wsX4_least_wsX4_least_r3 (gk_c mi_wsX4_least_wsX4_least_r2 (gk_c mi_wsX4_least_wsX4_least_r3 (gk_c mi_wsX4_least_wsX4_least_r4 (gk_c mi_wsX4_least_wsX4_least_r2 (gk_c mi_wsX4_least_wsX4_least_r3 (gk_c mi_wsX4_least_wsX4_least_r4 (gk_c mi_wsX4_least_wsX4_least_r5 (gk_c mi_wsX4_least_wsX4_least_r6 (gk_c mi_wsX4_least_wsX4_least_r1 (gk_c mi_wsX4_least_wsX4_least_r2 (gk_c mi_wsX4_least_wsX4_least_r1 (gk_c mi_wsX4_least_wsX4_least_r2 (gk_c mi_wsX4_least_wsX20 (gk_c mi_wsX4_least_wsX40 (gk_c mi_wsX4_least_wsX30 (gk_c mi_wsX4_least_wsX00 gk_n)))))))))))))))))))))))))) rfl (by decide +kernel)
set_option maxRecDepth 20000 in
theorem gX4_least_X4_heavyVotesBy : GoodIn wsX4_least (wsV RX4 200 RX4 yX4_heavyVotesBy wsX4_heavyVotesBy) := goodIn_app (goodIn_k _ [(wsX4_least_r5, [22, 23]), (wsX4_least_r6, [0]), (wsX4_least_r1, [11])] (gk_c mi_wsX4_least_wsX4_least_r5 (gk_c mi_wsX4_least_wsX4_least_r6 (gk_c mi_wsX4_least_wsX4_least_r1 gk_n))) rfl (by decide +kernel)) ggX4_least_X4_heavyVotesBy
set_option maxRecDepth 20000 in
theorem ggX4_least_X2_renew : GoodIn wsX4_least wsX2_renew := goodIn_k _ [(wsX4_least_r3, [6]), (wsX4_least_r2, [16, 17, 18]), (wsX4_least_r3, [7, 8, 9]), (wsX4_least_r2, [12]), (wsX4_least_r3, [10, 11]), (wsX4_least_r2, [14]), (wsX4_least_r3, [12, 13, 14, 15, 16, 17, 18, 19, 20, 21, 22, 23]), (wsX4_least_r4, [0, 1, 2, 3, 4, 5, 6, 7, 8, 9, 10, 11, 12]), (wsX4_least_r2, [23]), (wsX4_least_r3, [0, 1, 2]), (wsX4_least_r4, [13, 14, 15, 16, 17, 18, 19, 20, 21, 22, 23]), (wsX4_least_r5, [0, 1, 2, 3, 4, 5, 6, 7, 8, 9, 10, 11, 12, 13, 14, 15, 16, 17, 18, 19, 20, 21]), (wsX20, [0, 1, 2, 3, 4, 5, 6, 7, 8, 9, 10]), (wsX00, [0, 1]), (wsX30, [0, 1, 2, 3, 4])] (gk_c mi_wsX4_least_wsX4_least_r3 (gk_c mi_wsX4_least_wsX4_least_r2 (gk_c mi_wsX4_least_wsX4_least_r3 (gk_c mi_wsX4_least_wsX4_least_r2 (gk_c mi_wsX4_least_wsX4_least_r3 (gk_c mi_wsX4_least_wsX4_least_r2 (gk_c mi_wsX4_least_wsX4_least_r3 (gk_c mi_wsX4_least_wsX4_least_r4 (gk_c mi_wsX4_least_wsX4_least_r2 (gk_c mi_wsX4_least_wsX4_least_r3 (gk_c mi_wsX4_least_wsX4_least_r4 (gk_c mi_wsX4_least_wsX4_least_r5 (gk_c mi_wsX4_least_wsX20 (gk_c mi_wsX4_least_wsX00 (gk_c mi_wsX4_least_wsX30 gk_n))))))))))))))) rfl (by decide +kernel)
set_option maxRecDepth 20000 in
theorem gX4_least_X2_renew : GoodIn wsX4_least (wsV RX4 87 RX2 yX2_renew wsX2_renew) := goodIn_app (goodIn_k _ [(wsX4_least_r3, [3, 4, 5]), (wsX4_least_r2, [12])] (gk_c mi_wsX4_least_wsX4_least_r3 (gk_c mi_wsX4_least_wsX4_least_r2 gk_n)) rfl (by decide +kernel)) ggX4_least_X2_renew
def dt_cX4_least_0 : List (Nat × Nat × Nat × Nat) := [(0, 42, 0, 0), (1, 180, 2, 12), (4, 27, 0, 0), (5, 28, 0, 0), (6, 182, 2, 79), (9, 153, 2, 20), (12, 28, 0, 0), (13, 27, 0, 0), (14, 100, 0, 0), (15, 16, 1, 64), (17, 163, 2, 12), (20, 29, 0, 0), (21, 21, 1, 4), (23, 184, 2, 186), (26, 154, 2, 5), (29, 2, 0, 0), (30, 172, 0, 0), (31, 42, 0, 0), (32, 27, 0, 0), (33, 28, 0, 0)]
theorem da_cX4_least_0 : fw dt_cX4_least_0 0 cX4_least.data.toList = true := by decide +kernel
theorem dX4_least_0 : decode cX4_least 0 = .ok (.aload_n 0, 1) := fo_42 (fw_get da_cX4_least_0 0 rfl)
theorem dX4_least_1 : decode cX4_least 1 = .ok (.getfield 12, 3) := fo_180 (fw_get da_cX4_least_0 1 rfl)
theorem dX4_least_4 : decode cX4_least 4 = .ok (.iload_n 1, 1) := fo_27 (fw_get da_cX4_least_0 2 rfl)
theorem dX4_least_5 : decode cX4_least 5 = .ok (.iload_n 2, 1) := fo_28 (fw_get da_cX4_least_0 3 rfl)
theorem dX4_least_6 : decode cX4_least 6 = .ok (.invokevirtual 79, 3) := fo_182 (fw_get da_cX4_least_0 4 rfl)
theorem dX4_least_9 : decode cX4_least 9 = .ok (.ifCond .eq 20, 3) := fo_153 (fw_get da_cX4_least_0 5 rfl) (by decide +kernel)
theorem dX4_least_12 : decode cX4_least 12 = .ok (.iload_n 2, 1) := fo_28 (fw_get da_cX4_least_0 6 rfl)
theorem dX4_least_13 : decode cX4_least 13 = .ok (.iload_n 1, 1) := fo_27 (fw_get da_cX4_least_0 7 rfl)
theorem dX4_least_14 : decode cX4_least 14 = .ok (.isub, 1) := fo_100 (fw_get da_cX4_least_0 8 rfl)
theorem dX4_least_15 : decode cX4_least 15 = .ok (.bipush 64, 2) := fo_16 (fw_get da_cX4_least_0 9 rfl) (by decide +kernel)
theorem dX4_least_17 : decode cX4_least 17 = .ok (.if_icmp .gt 12, 3) := fo_163 (fw_get da_cX4_least_0 10 rfl) (by decide +kernel)
theorem dX4_least_20 : decode cX4_least 20 = .ok (.iload_n 3, 1) := fo_29 (fw_get da_cX4_least_0 11 rfl)
theorem dX4_least_21 : decode cX4_least 21 = .ok (.iload 4, 2) := fo_21 (fw_get da_cX4_least_0 12 rfl)
theorem dX4_least_23 : decode cX4_least 23 = .ok (.invokestatic 186, 3) := fo_184 (fw_get da_cX4_least_0 13 rfl)
theorem dX4_least_26 : decode cX4_least 26 = .ok (.ifCond .ne 5, 3) := fo_154 (fw_get da_cX4_least_0 14 rfl) (by decide +kernel)
theorem dX4_least_29 : decode cX4_least 29 = .ok (.iconst (-1), 1) := fo_2 (fw_get da_cX4_least_0 15 rfl)
theorem dX4_least_30 : decode cX4_least 30 = .ok (.ireturn, 1) := fo_172 (fw_get da_cX4_least_0 16 rfl)
theorem dX4_least_31 : decode cX4_least 31 = .ok (.aload_n 0, 1) := fo_42 (fw_get da_cX4_least_0 17 rfl)
theorem dX4_least_32 : decode cX4_least 32 = .ok (.iload_n 1, 1) := fo_27 (fw_get da_cX4_least_0 18 rfl)
theorem dX4_least_33 : decode cX4_least 33 = .ok (.iload_n 2, 1) := fo_28 (fw_get da_cX4_least_0 19 rfl)
def dt_cX4_least_1 : List (Nat × Nat × Nat × Nat) := [(34, 29, 0, 0), (35, 21, 1, 4), (37, 182, 2, 196), (40, 54, 1, 5), (42, 16, 1, 254), (44, 54, 1, 6), (46, 42, 0, 0), (47, 182, 2, 71), (50, 58, 1, 7), (52, 4, 0, 0), (53, 54, 1, 8), (55, 21, 1, 8), (57, 16, 1, 6), (59, 163, 2, 45), (62, 21, 1, 6), (64, 16, 1, 254), (66, 160, 2, 38), (69, 21, 1, 8), (71, 21, 1, 5), (73, 161, 2, 25)]
theorem da_cX4_least_1 : fw dt_cX4_least_1 0 cX4_least.data.toList = true := by decide +kernel
theorem dX4_least_34 : decode cX4_least 34 = .ok (.iload_n 3, 1) := fo_29 (fw_get da_cX4_least_1 0 rfl)
theorem dX4_least_35 : decode cX4_least 35 = .ok (.iload 4, 2) := fo_21 (fw_get da_cX4_least_1 1 rfl)
theorem dX4_least_37 : decode cX4_least 37 = .ok (.invokevirtual 196, 3) := fo_182 (fw_get da_cX4_least_1 2 rfl)
theorem dX4_least_40 : decode cX4_least 40 = .ok (.istore 5, 2) := fo_54 (fw_get da_cX4_least_1 3 rfl)
theorem dX4_least_42 : decode cX4_least 42 = .ok (.bipush (-2), 2) := fo_16 (fw_get da_cX4_least_1 4 rfl) (by decide +kernel)
theorem dX4_least_44 : decode cX4_least 44 = .ok (.istore 6, 2) := fo_54 (fw_get da_cX4_least_1 5 rfl)
theorem dX4_least_46 : decode cX4_least 46 = .ok (.aload_n 0, 1) := fo_42 (fw_get da_cX4_least_1 6 rfl)
theorem dX4_least_47 : decode cX4_least 47 = .ok (.invokevirtual 71, 3) := fo_182 (fw_get da_cX4_least_1 7 rfl)
theorem dX4_least_50 : decode cX4_least 50 = .ok (.astore 7, 2) := fo_58 (fw_get da_cX4_least_1 8 rfl)
theorem dX4_least_52 : decode cX4_least 52 = .ok (.iconst 1, 1) := fo_4 (fw_get da_cX4_least_1 9 rfl)
theorem dX4_least_53 : decode cX4_least 53 = .ok (.istore 8, 2) := fo_54 (fw_get da_cX4_least_1 10 rfl)
theorem dX4_least_55 : decode cX4_least 55 = .ok (.iload 8, 2) := fo_21 (fw_get da_cX4_least_1 11 rfl)
theorem dX4_least_57 : decode cX4_least 57 = .ok (.bipush 6, 2) := fo_16 (fw_get da_cX4_least_1 12 rfl) (by decide +kernel)
theorem dX4_least_59 : decode cX4_least 59 = .ok (.if_icmp .gt 45, 3) := fo_163 (fw_get da_cX4_least_1 13 rfl) (by decide +kernel)
theorem dX4_least_62 : decode cX4_least 62 = .ok (.iload 6, 2) := fo_21 (fw_get da_cX4_least_1 14 rfl)
theorem dX4_least_64 : decode cX4_least 64 = .ok (.bipush (-2), 2) := fo_16 (fw_get da_cX4_least_1 15 rfl) (by decide +kernel)
theorem dX4_least_66 : decode cX4_least 66 = .ok (.if_icmp .ne 38, 3) := fo_160 (fw_get da_cX4_least_1 16 rfl) (by decide +kernel)
theorem dX4_least_69 : decode cX4_least 69 = .ok (.iload 8, 2) := fo_21 (fw_get da_cX4_least_1 17 rfl)
theorem dX4_least_71 : decode cX4_least 71 = .ok (.iload 5, 2) := fo_21 (fw_get da_cX4_least_1 18 rfl)
theorem dX4_least_73 : decode cX4_least 73 = .ok (.if_icmp .lt 25, 3) := fo_161 (fw_get da_cX4_least_1 19 rfl) (by decide +kernel)
def dt_cX4_least_2 : List (Nat × Nat × Nat × Nat) := [(76, 42, 0, 0), (77, 25, 1, 7), (79, 21, 1, 8), (81, 27, 0, 0), (82, 28, 0, 0), (83, 29, 0, 0), (84, 21, 1, 4), (86, 182, 2, 200), (89, 21, 1, 5), (91, 160, 2, 7), (94, 21, 1, 8), (96, 54, 1, 6), (98, 132, 2, 2049), (101, 167, 2, 65490), (104, 25, 1, 7), (106, 42, 0, 0), (107, 180, 2, 49), (110, 181, 2, 204), (113, 25, 1, 7), (115, 27, 0, 0)]
theorem da_cX4_least_2 : fw dt_cX4_least_2 0 cX4_least.data.toList = true := by decide +kernel
theorem dX4_least_76 : decode cX4_least 76 = .ok (.aload_n 0, 1) := fo_42 (fw_get da_cX4_least_2 0 rfl)
theorem dX4_least_77 : decode cX4_least 77 = .ok (.aload 7, 2) := fo_25 (fw_get da_cX4_least_2 1 rfl)
theorem dX4_least_79 : decode cX4_least 79 = .ok (.iload 8, 2) := fo_21 (fw_get da_cX4_least_2 2 rfl)
theorem dX4_least_81 : decode cX4_least 81 = .ok (.iload_n 1, 1) := fo_27 (fw_get da_cX4_least_2 3 rfl)
theorem dX4_least_82 : decode cX4_least 82 = .ok (.iload_n 2, 1) := fo_28 (fw_get da_cX4_least_2 4 rfl)
theorem dX4_least_83 : decode cX4_least 83 = .ok (.iload_n 3, 1) := fo_29 (fw_get da_cX4_least_2 5 rfl)
theorem dX4_least_84 : decode cX4_least 84 = .ok (.iload 4, 2) := fo_21 (fw_get da_cX4_least_2 6 rfl)
theorem dX4_least_86 : decode cX4_least 86 = .ok (.invokevirtual 200, 3) := fo_182 (fw_get da_cX4_least_2 7 rfl)
theorem dX4_least_89 : decode cX4_least 89 = .ok (.iload 5, 2) := fo_21 (fw_get da_cX4_least_2 8 rfl)
theorem dX4_least_91 : decode cX4_least 91 = .ok (.if_icmp .ne 7, 3) := fo_160 (fw_get da_cX4_least_2 9 rfl) (by decide +kernel)
theorem dX4_least_94 : decode cX4_least 94 = .ok (.iload 8, 2) := fo_21 (fw_get da_cX4_least_2 10 rfl)
theorem dX4_least_96 : decode cX4_least 96 = .ok (.istore 6, 2) := fo_54 (fw_get da_cX4_least_2 11 rfl)
theorem dX4_least_98 : decode cX4_least 98 = .ok (.iinc 8 1, 3) := fo_132 (fw_get da_cX4_least_2 12 rfl) rfl (by decide +kernel)
theorem dX4_least_101 : decode cX4_least 101 = .ok (.goto (-46), 3) := fo_167 (fw_get da_cX4_least_2 13 rfl) (by decide +kernel)
theorem dX4_least_104 : decode cX4_least 104 = .ok (.aload 7, 2) := fo_25 (fw_get da_cX4_least_2 14 rfl)
theorem dX4_least_106 : decode cX4_least 106 = .ok (.aload_n 0, 1) := fo_42 (fw_get da_cX4_least_2 15 rfl)
theorem dX4_least_107 : decode cX4_least 107 = .ok (.getfield 49, 3) := fo_180 (fw_get da_cX4_least_2 16 rfl)
theorem dX4_least_110 : decode cX4_least 110 = .ok (.putfield 204, 3) := fo_181 (fw_get da_cX4_least_2 17 rfl)
theorem dX4_least_113 : decode cX4_least 113 = .ok (.aload 7, 2) := fo_25 (fw_get da_cX4_least_2 18 rfl)
theorem dX4_least_115 : decode cX4_least 115 = .ok (.iload_n 1, 1) := fo_27 (fw_get da_cX4_least_2 19 rfl)
def dt_cX4_least_3 : List (Nat × Nat × Nat × Nat) := [(116, 28, 0, 0), (117, 182, 2, 87), (120, 87, 0, 0), (121, 21, 1, 6), (123, 172, 0, 0)]
theorem da_cX4_least_3 : fw dt_cX4_least_3 0 cX4_least.data.toList = true := by decide +kernel
theorem dX4_least_116 : decode cX4_least 116 = .ok (.iload_n 2, 1) := fo_28 (fw_get da_cX4_least_3 0 rfl)
theorem dX4_least_117 : decode cX4_least 117 = .ok (.invokevirtual 87, 3) := fo_182 (fw_get da_cX4_least_3 1 rfl)
theorem dX4_least_120 : decode cX4_least 120 = .ok (.pop, 1) := fo_87 (fw_get da_cX4_least_3 2 rfl)
theorem dX4_least_121 : decode cX4_least 121 = .ok (.iload 6, 2) := fo_21 (fw_get da_cX4_least_3 3 rfl)
theorem dX4_least_123 : decode cX4_least 123 = .ok (.ireturn, 1) := fo_172 (fw_get da_cX4_least_3 4 rfl)
theorem mi_wsX4_both_wsX4_both_r1 : ∀ w ∈ wsX4_both_r1, w ∈ wsX4_both := fun _ h => (List.mem_cons_of_mem _ (List.mem_append_left _ (List.mem_append_left _ (List.mem_append_left _ (List.mem_append_left _ (List.mem_append_left _ h))))))
theorem mi_wsX4_both_wsX40 : ∀ w ∈ wsX40, w ∈ wsX4_both := fun _ h => (List.mem_cons_of_mem _ (List.mem_append_left _ (List.mem_append_left _ (List.mem_append_left _ (List.mem_append_right _ h)))))
theorem mi_wsX4_both_wsX00 : ∀ w ∈ wsX00, w ∈ wsX4_both := fun _ h => (List.mem_cons_of_mem _ (List.mem_append_left _ (List.mem_append_right _ h)))
set_option maxRecDepth 20000 in
theorem ggX4_both_X4_refusalOfBoth : GoodIn wsX4_both wsX4_refusalOfBoth := goodIn_k _ [(wsX4_both_r1, [6, 7, 8, 9, 10, 11, 12, 13, 14, 15, 5, 16, 17, 18, 19, 20, 21]), (wsX40, [0, 1, 2, 3, 4, 5, 6, 7, 8]), (wsX00, [0, 1])] (gk_c mi_wsX4_both_wsX4_both_r1 (gk_c mi_wsX4_both_wsX40 (gk_c mi_wsX4_both_wsX00 gk_n))) rfl (by decide +kernel)
set_option maxRecDepth 20000 in
theorem gX4_both_X4_refusalOfBoth : GoodIn wsX4_both (wsV RX4 210 RX4 yX4_refusalOfBoth wsX4_refusalOfBoth) := goodIn_app (goodIn_k _ [(wsX4_both_r1, [2, 3, 4, 5])] (gk_c mi_wsX4_both_wsX4_both_r1 gk_n) rfl (by decide +kernel)) ggX4_both_X4_refusalOfBoth
theorem mi_wsX4_both_wsX4_both_r2 : ∀ w ∈ wsX4_both_r2, w ∈ wsX4_both := fun _ h => (List.mem_cons_of_mem _ (List.mem_append_left _ (List.mem_append_left _ (List.mem_append_left _ (List.mem_append_left _ (List.mem_append_right _ (List.mem_append_left _ h)))))))
theorem mi_wsX4_both_wsX4_both_r3 : ∀ w ∈ wsX4_both_r3, w ∈ wsX4_both := fun _ h => (List.mem_cons_of_mem _ (List.mem_append_left _ (List.mem_append_left _ (List.mem_append_left _ (List.mem_append_left _ (List.mem_append_right _ (List.mem_append_right _ (List.mem_append_left _ h))))))))
theorem mi_wsX4_both_wsX4_both_r4 : ∀ w ∈ wsX4_both_r4, w ∈ wsX4_both := fun _ h => (List.mem_cons_of_mem _ (List.mem_append_left _ (List.mem_append_left _ (List.mem_append_left _ (List.mem_append_left _ (List.mem_append_right _ (List.mem_append_right _ (List.mem_append_right _ (List.mem_append_left _ h)))))))))
theorem mi_wsX4_both_wsX4_both_r5 : ∀ w ∈ wsX4_both_r5, w ∈ wsX4_both := fun _ h => (List.mem_cons_of_mem _ (List.mem_append_left _ (List.mem_append_left _ (List.mem_append_left _ (List.mem_append_left _ (List.mem_append_right _ (List.mem_append_right _ (List.mem_append_right _ (List.mem_append_right _ (List.mem_append_left _ h))))))))))
theorem mi_wsX4_both_wsX20 : ∀ w ∈ wsX20, w ∈ wsX4_both := fun _ h => (List.mem_cons_of_mem _ (List.mem_append_right _ h))
theorem mi_wsX4_both_wsX30 : ∀ w ∈ wsX30, w ∈ wsX4_both := fun _ h => (List.mem_cons_of_mem _ (List.mem_append_left _ (List.mem_append_left _ (List.mem_append_right _ h))))
set_option maxRecDepth 20000 in
theorem ggX4_both_X4_laidTree : GoodIn wsX4_both wsX4_laidTree := goodIn_k _ [(wsX4_both_r2, [1, 2, 3]), (wsX4_both_r1, [21]), (wsX4_both_r2, [4]), (wsX4_both_r1, [7]), (wsX4_both_r2, [5, 6, 7, 8, 9, 10, 11, 12, 13, 14, 15, 16, 17, 18, 19, 20, 21, 22, 23]), (wsX4_both_r3, [0, 1, 2, 3, 4, 5, 6, 7, 8, 9, 10, 11, 12, 13, 14, 15, 16, 17, 18, 19, 20, 21, 22, 23]), (wsX4_both_r4, [0, 1, 2, 3, 4, 5, 6, 7, 8, 9, 10, 11, 12, 13, 14, 15, 16, 17, 18, 19, 20, 21, 22, 23]), (wsX4_both_r5, [0, 1, 2, 3, 4, 5, 6, 7, 8, 9, 10, 11, 12, 13, 14, 15, 16, 17, 18]), (wsX40, [0, 1, 2, 3, 4, 5, 6, 7, 8]), (wsX20, [0, 1, 2, 3, 4, 5, 6, 7, 8, 9, 10]), (wsX00, [0, 1]), (wsX30, [0, 1, 2, 3, 4])] (gk_c mi_wsX4_both_wsX4_both_r2 (gk_c mi_wsX4_both_wsX4_both_r1 (gk_c mi_wsX4_both_wsX4_both_r2 (gk_c mi_wsX4_both_wsX4_both_r1 (gk_c mi_wsX4_both_wsX4_both_r2 (gk_c mi_wsX4_both_wsX4_both_r3 (gk_c mi_wsX4_both_wsX4_both_r4 (gk_c mi_wsX4_both_wsX4_both_r5 (gk_c mi_wsX4_both_wsX40 (gk_c mi_wsX4_both_wsX20 (gk_c mi_wsX4_both_wsX00 (gk_c mi_wsX4_both_wsX30 gk_n)))))))))))) rfl (by decide +kernel)
set_option maxRecDepth 20000 in
theorem gX4_both_X4_laidTree : GoodIn wsX4_both (wsV RX4 71 RX4 yX4_laidTree wsX4_laidTree) := goodIn_app (goodIn_k _ [(wsX4_both_r1, [22, 23]), (wsX4_both_r2, [0]), (wsX4_both_r1, [5])] (gk_c mi_wsX4_both_wsX4_both_r1 (gk_c mi_wsX4_both_wsX4_both_r2 (gk_c mi_wsX4_both_wsX4_both_r1 gk_n))) rfl (by decide +kernel)) ggX4_both_X4_laidTree
theorem mi_wsX4_both_wsX4_both_r6 : ∀ w ∈ wsX4_both_r6, w ∈ wsX4_both := fun _ h => (List.mem_cons_of_mem _ (List.mem_append_left _ (List.mem_append_left _ (List.mem_append_left _ (List.mem_append_left _ (List.mem_append_right _ (List.mem_append_right _ (List.mem_append_right _ (List.mem_append_right _ (List.mem_append_right _ (List.mem_append_left _ h)))))))))))
theorem mi_wsX4_both_wsX4_both_r7 : ∀ w ∈ wsX4_both_r7, w ∈ wsX4_both := fun _ h => (List.mem_cons_of_mem _ (List.mem_append_left _ (List.mem_append_left _ (List.mem_append_left _ (List.mem_append_left _ (List.mem_append_right _ (List.mem_append_right _ (List.mem_append_right _ (List.mem_append_right _ (List.mem_append_right _ (List.mem_append_right _ h)))))))))))
set_option maxRecDepth 20000 in
theorem ggX4_both_X4_gatherHeavyOfBoth : GoodIn wsX4_both wsX4_gatherHeavyOfBoth := goodIn_k _ [(wsX4_both_r5, [22]), (wsX4_both_r1, [0]), (wsX4_both_r5, [23, 14, 15, 16]), (wsX4_both_r6, [0, 1, 2, 3]), (wsX4_both_r1, [21, 1]), (wsX4_both_r6, [4, 5]), (wsX4_both_r1, [7]), (wsX4_both_r6, [6, 7, 8]), (wsX4_both_r2, [9]), (wsX4_both_r6, [9]), (wsX4_both_r2, [13, 15]), (wsX4_both_r3, [10, 11, 12, 13, 14, 15, 16, 17, 18]), (wsX4_both_r6, [10, 11, 12, 13]), (wsX4_both_r2, [14]), (wsX4_both_r4, [1, 2, 3, 4, 5, 6, 7, 8, 9]), (wsX4_both_r3, [19, 20, 21, 22, 23]), (wsX4_both_r4, [0, 10, 11, 12, 13, 14, 15, 16, 17, 18, 19, 20, 21, 22, 23]), (wsX4_both_r5, [0, 1]), (wsX4_both_r6, [14, 15, 16, 17, 18, 19, 20, 21, 22]), (wsX4_both_r1, [11]), (wsX4_both_r6, [23]), (wsX4_both_r7, [0, 1, 2, 3, 4, 5]), (wsX4_both_r1, [5]), (wsX4_both_r7, [6]), (wsX40, [0, 1, 2, 3, 4, 5, 6, 7, 8]), (wsX30, [0, 1, 2, 3, 4]), (wsX20, [0, 1, 2, 3, 4, 5, 6, 7, 8, 9, 10]), (wsX00, [0, 1])] (gk_c mi_wsX4_both_wsX4_both_r5 (gk_c mi_wsX4_both_wsX4_both_r1 (gk_c mi_wsX4_both_wsX4_both_r5 (gk_c mi_wsX4_both_wsX4_both_r6 (gk_c mi_wsX4_both_wsX4_both_r1 (gk_c mi_wsX4_both_wsX4_both_r6 (gk_c mi_wsX4_both_wsX4_both_r1 (gk_c mi_wsX4_both_wsX4_both_r6 (gk_c mi_wsX4_both_wsX4_both_r2 (gk_c mi_wsX4_both_wsX4_both_r6 (gk_c mi_wsX4_both_wsX4_both_r2 (gk_c mi_wsX4_both_wsX4_both_r3 (gk_c mi_wsX4_both_wsX4_both_r6 (gk_c mi_wsX4_both_wsX4_both_r2 (gk_c mi_wsX4_both_wsX4_both_r4 (gk_c mi_wsX4_both_wsX4_both_r3 (gk_c mi_wsX4_both_wsX4_both_r4 (gk_c mi_wsX4_both_wsX4_both_r5 (gk_c mi_wsX4_both_wsX4_both_r6 (gk_c mi_wsX4_both_wsX4_both_r1 (gk_c mi_wsX4_both_wsX4_both_r6 (gk_c mi_wsX4_both_wsX4_both_r7 (gk_c mi_wsX4_both_wsX4_both_r1 (gk_c mi_wsX4_both_wsX4_both_r7 (gk_c mi_wsX4_both_wsX40 (gk_c mi_wsX4_both_wsX30 (gk_c mi_wsX4_both_wsX20 (gk_c mi_wsX4_both_wsX00 gk_n)))))))))))))))))))))))))))) rfl (by decide +kernel)
set_option maxRecDepth 20000 in
theorem gX4_both_X4_gatherHeavyOfBoth : GoodIn wsX4_both (wsV RX4 214 RX4 yX4_gatherHeavyOfBoth wsX4_gatherHeavyOfBoth) := goodIn_app (goodIn_k _ [(wsX4_both_r5, [19, 20, 21]), (wsX4_both_r1, [5])] (gk_c mi_wsX4_both_wsX4_both_r5 (gk_c mi_wsX4_both_wsX4_both_r1 gk_n)) rfl (by decide +kernel)) ggX4_both_X4_gatherHeavyOfBoth
def dt_cX4_both_0 : List (Nat × Nat × Nat × Nat) := [(0, 42, 0, 0), (1, 27, 0, 0), (2, 28, 0, 0), (3, 29, 0, 0), (4, 21, 1, 4), (6, 21, 1, 5), (8, 21, 1, 6), (10, 182, 2, 210), (13, 54, 1, 7), (15, 21, 1, 7), (17, 153, 2, 6), (20, 21, 1, 7), (22, 172, 0, 0), (23, 42, 0, 0), (24, 42, 0, 0), (25, 182, 2, 71), (28, 27, 0, 0), (29, 28, 0, 0), (30, 29, 0, 0), (31, 21, 1, 4)]
theorem da_cX4_both_0 : fw dt_cX4_both_0 0 cX4_both.data.toList = true := by decide +kernel
theorem dX4_both_0 : decode cX4_both 0 = .ok (.aload_n 0, 1) := fo_42 (fw_get da_cX4_both_0 0 rfl)
theorem dX4_both_1 : decode cX4_both 1 = .ok (.iload_n 1, 1) := fo_27 (fw_get da_cX4_both_0 1 rfl)
theorem dX4_both_2 : decode cX4_both 2 = .ok (.iload_n 2, 1) := fo_28 (fw_get da_cX4_both_0 2 rfl)
theorem dX4_both_3 : decode cX4_both 3 = .ok (.iload_n 3, 1) := fo_29 (fw_get da_cX4_both_0 3 rfl)
theorem dX4_both_4 : decode cX4_both 4 = .ok (.iload 4, 2) := fo_21 (fw_get da_cX4_both_0 4 rfl)
theorem dX4_both_6 : decode cX4_both 6 = .ok (.iload 5, 2) := fo_21 (fw_get da_cX4_both_0 5 rfl)
theorem dX4_both_8 : decode cX4_both 8 = .ok (.iload 6, 2) := fo_21 (fw_get da_cX4_both_0 6 rfl)
theorem dX4_both_10 : decode cX4_both 10 = .ok (.invokevirtual 210, 3) := fo_182 (fw_get da_cX4_both_0 7 rfl)
theorem dX4_both_13 : decode cX4_both 13 = .ok (.istore 7, 2) := fo_54 (fw_get da_cX4_both_0 8 rfl)
theorem dX4_both_15 : decode cX4_both 15 = .ok (.iload 7, 2) := fo_21 (fw_get da_cX4_both_0 9 rfl)
theorem dX4_both_17 : decode cX4_both 17 = .ok (.ifCond .eq 6, 3) := fo_153 (fw_get da_cX4_both_0 10 rfl) (by decide +kernel)
theorem dX4_both_20 : decode cX4_both 20 = .ok (.iload 7, 2) := fo_21 (fw_get da_cX4_both_0 11 rfl)
theorem dX4_both_22 : decode cX4_both 22 = .ok (.ireturn, 1) := fo_172 (fw_get da_cX4_both_0 12 rfl)
theorem dX4_both_23 : decode cX4_both 23 = .ok (.aload_n 0, 1) := fo_42 (fw_get da_cX4_both_0 13 rfl)
theorem dX4_both_24 : decode cX4_both 24 = .ok (.aload_n 0, 1) := fo_42 (fw_get da_cX4_both_0 14 rfl)
theorem dX4_both_25 : decode cX4_both 25 = .ok (.invokevirtual 71, 3) := fo_182 (fw_get da_cX4_both_0 15 rfl)
theorem dX4_both_28 : decode cX4_both 28 = .ok (.iload_n 1, 1) := fo_27 (fw_get da_cX4_both_0 16 rfl)
theorem dX4_both_29 : decode cX4_both 29 = .ok (.iload_n 2, 1) := fo_28 (fw_get da_cX4_both_0 17 rfl)
theorem dX4_both_30 : decode cX4_both 30 = .ok (.iload_n 3, 1) := fo_29 (fw_get da_cX4_both_0 18 rfl)
theorem dX4_both_31 : decode cX4_both 31 = .ok (.iload 4, 2) := fo_21 (fw_get da_cX4_both_0 19 rfl)
def dt_cX4_both_1 : List (Nat × Nat × Nat × Nat) := [(33, 21, 1, 5), (35, 21, 1, 6), (37, 182, 2, 214), (40, 42, 0, 0), (41, 180, 2, 35), (44, 180, 2, 174), (47, 172, 0, 0)]
theorem da_cX4_both_1 : fw dt_cX4_both_1 0 cX4_both.data.toList = true := by decide +kernel
theorem dX4_both_33 : decode cX4_both 33 = .ok (.iload 5, 2) := fo_21 (fw_get da_cX4_both_1 0 rfl)
theorem dX4_both_35 : decode cX4_both 35 = .ok (.iload 6, 2) := fo_21 (fw_get da_cX4_both_1 1 rfl)
theorem dX4_both_37 : decode cX4_both 37 = .ok (.invokevirtual 214, 3) := fo_182 (fw_get da_cX4_both_1 2 rfl)
theorem dX4_both_40 : decode cX4_both 40 = .ok (.aload_n 0, 1) := fo_42 (fw_get da_cX4_both_1 3 rfl)
theorem dX4_both_41 : decode cX4_both 41 = .ok (.getfield 35, 3) := fo_180 (fw_get da_cX4_both_1 4 rfl)
theorem dX4_both_44 : decode cX4_both 44 = .ok (.getfield 174, 3) := fo_180 (fw_get da_cX4_both_1 5 rfl)
theorem dX4_both_47 : decode cX4_both 47 = .ok (.ireturn, 1) := fo_172 (fw_get da_cX4_both_1 6 rfl)
theorem mi_wsX4_bothAt_wsX4_bothAt_r1 : ∀ w ∈ wsX4_bothAt_r1, w ∈ wsX4_bothAt := fun _ h => (List.mem_cons_of_mem _ (List.mem_append_left _ (List.mem_append_left _ (List.mem_append_left _ (List.mem_append_left _ (List.mem_append_left _ h))))))
theorem mi_wsX4_bothAt_wsX40 : ∀ w ∈ wsX40, w ∈ wsX4_bothAt := fun _ h => (List.mem_cons_of_mem _ (List.mem_append_left _ (List.mem_append_left _ (List.mem_append_left _ (List.mem_append_right _ h)))))
theorem mi_wsX4_bothAt_wsX00 : ∀ w ∈ wsX00, w ∈ wsX4_bothAt := fun _ h => (List.mem_cons_of_mem _ (List.mem_append_left _ (List.mem_append_right _ h)))
set_option maxRecDepth 20000 in
theorem ggX4_bothAt_X4_refusalOfBoth : GoodIn wsX4_bothAt wsX4_refusalOfBoth := goodIn_k _ [(wsX4_bothAt_r1, [8, 9, 10, 11, 12, 13, 14, 15, 16, 17, 7, 18, 19, 20, 21, 22, 23]), (wsX40, [0, 1, 2, 3, 4, 5, 6, 7, 8]), (wsX00, [0, 1])] (gk_c mi_wsX4_bothAt_wsX4_bothAt_r1 (gk_c mi_wsX4_bothAt_wsX40 (gk_c mi_wsX4_bothAt_wsX00 gk_n))) rfl (by decide +kernel)
set_option maxRecDepth 20000 in
theorem gX4_bothAt_X4_refusalOfBoth : GoodIn wsX4_bothAt (wsV RX4 210 RX4 yX4_refusalOfBoth wsX4_refusalOfBoth) := goodIn_app (goodIn_k _ [(wsX4_bothAt_r1, [4, 5, 6, 7])] (gk_c mi_wsX4_bothAt_wsX4_bothAt_r1 gk_n) rfl (by decide +kernel)) ggX4_bothAt_X4_refusalOfBoth
theorem mi_wsX4_bothAt_wsX4_bothAt_r2 : ∀ w ∈ wsX4_bothAt_r2, w ∈ wsX4_bothAt := fun _ h => (List.mem_cons_of_mem _ (List.mem_append_left _ (List.mem_append_left _ (List.mem_append_left _ (List.mem_append_left _ (List.mem_append_right _ (List.mem_append_left _ h)))))))
theorem mi_wsX4_bothAt_wsX4_bothAt_r3 : ∀ w ∈ wsX4_bothAt_r3, w ∈ wsX4_bothAt := fun _ h => (List.mem_cons_of_mem _ (List.mem_append_left _ (List.mem_append_left _ (List.mem_append_left _ (List.mem_append_left _ (List.mem_append_right _ (List.mem_append_right _ (List.mem_append_left _ h))))))))
theorem mi_wsX4_bothAt_wsX4_bothAt_r4 : ∀ w ∈ wsX4_bothAt_r4, w ∈ wsX4_bothAt := fun _ h => (List.mem_cons_of_mem _ (List.mem_append_left _ (List.mem_append_left _ (List.mem_append_left _ (List.mem_append_left _ (List.mem_append_right _ (List.mem_append_right _ (List.mem_append_right _ (List.mem_append_left _ h)))))))))
theorem mi_wsX4_bothAt_wsX4_bothAt_r5 : ∀ w ∈ wsX4_bothAt_r5, w ∈ wsX4_bothAt := fun _ h => (List.mem_cons_of_mem _ (List.mem_append_left _ (List.mem_append_left _ (List.mem_append_left _ (List.mem_append_left _ (List.mem_append_right _ (List.mem_append_right _ (List.mem_append_right _ (List.mem_append_right _ (List.mem_append_left _ h))))))))))
theorem mi_wsX4_bothAt_wsX20 : ∀ w ∈ wsX20, w ∈ wsX4_bothAt := fun _ h => (List.mem_cons_of_mem _ (List.mem_append_right _ h))
theorem mi_wsX4_bothAt_wsX30 : ∀ w ∈ wsX30, w ∈ wsX4_bothAt := fun _ h => (List.mem_cons_of_mem _ (List.mem_append_left _ (List.mem_append_left _ (List.mem_append_right _ h))))
set_option maxRecDepth 20000 in
theorem ggX4_bothAt_X4_laidTree : GoodIn wsX4_bothAt wsX4_laidTree := goodIn_k _ [(wsX4_bothAt_r2, [3, 4, 5]), (wsX4_bothAt_r1, [23]), (wsX4_bothAt_r2, [6]), (wsX4_bothAt_r1, [9]), (wsX4_bothAt_r2, [7, 8, 9, 10, 11, 12, 13, 14, 15, 16, 17, 18, 19, 20, 21, 22, 23]), (wsX4_bothAt_r3, [0, 1, 2, 3, 4, 5, 6, 7, 8, 9, 10, 11, 12, 13, 14, 15, 16, 17, 18, 19, 20, 21, 22, 23]), (wsX4_bothAt_r4, [0, 1, 2, 3, 4, 5, 6, 7, 8, 9, 10, 11, 12, 13, 14, 15, 16, 17, 18, 19, 20, 21, 22, 23]), (wsX4_bothAt_r5, [0, 1, 2, 3, 4, 5, 6, 7, 8, 9, 10, 11, 12, 13, 14, 15, 16, 17, 18, 19, 20]), (wsX40, [0, 1, 2, 3, 4, 5, 6, 7, 8]), (wsX20, [0, 1, 2, 3, 4, 5, 6, 7, 8, 9, 10]), (wsX00, [0, 1]), (wsX30, [0, 1, 2, 3, 4])] (gk_c mi_wsX4_bothAt_wsX4_bothAt_r2 (gk_c mi_wsX4_bothAt_wsX4_bothAt_r1 (gk_c mi_wsX4_bothAt_wsX4_bothAt_r2 (gk_c mi_wsX4_bothAt_wsX4_bothAt_r1 (gk_c mi_wsX4_bothAt_wsX4_bothAt_r2 (gk_c mi_wsX4_bothAt_wsX4_bothAt_r3 (gk_c mi_wsX4_bothAt_wsX4_bothAt_r4 (gk_c mi_wsX4_bothAt_wsX4_bothAt_r5 (gk_c mi_wsX4_bothAt_wsX40 (gk_c mi_wsX4_bothAt_wsX20 (gk_c mi_wsX4_bothAt_wsX00 (gk_c mi_wsX4_bothAt_wsX30 gk_n)))))))))))) rfl (by decide +kernel)
set_option maxRecDepth 20000 in
theorem gX4_bothAt_X4_laidTree : GoodIn wsX4_bothAt (wsV RX4 71 RX4 yX4_laidTree wsX4_laidTree) := goodIn_app (goodIn_k _ [(wsX4_bothAt_r2, [0, 1, 2]), (wsX4_bothAt_r1, [7])] (gk_c mi_wsX4_bothAt_wsX4_bothAt_r2 (gk_c mi_wsX4_bothAt_wsX4_bothAt_r1 gk_n)) rfl (by decide +kernel)) ggX4_bothAt_X4_laidTree
theorem mi_wsX4_bothAt_wsX4_bothAt_r6 : ∀ w ∈ wsX4_bothAt_r6, w ∈ wsX4_bothAt := fun _ h => (List.mem_cons_of_mem _ (List.mem_append_left _ (List.mem_append_left _ (List.mem_append_left _ (List.mem_append_left _ (List.mem_append_right _ (List.mem_append_right _ (List.mem_append_right _ (List.mem_append_right _ (List.mem_append_right _ (List.mem_append_left _ h)))))))))))
theorem mi_wsX4_bothAt_wsX4_bothAt_r7 : ∀ w ∈ wsX4_bothAt_r7, w ∈ wsX4_bothAt := fun _ h => (List.mem_cons_of_mem _ (List.mem_append_left _ (List.mem_append_left _ (List.mem_append_left _ (List.mem_append_left _ (List.mem_append_right _ (List.mem_append_right _ (List.mem_append_right _ (List.mem_append_right _ (List.mem_append_right _ (List.mem_append_right _ h)))))))))))
set_option maxRecDepth 20000 in
theorem ggX4_bothAt_X4_gatherHeavyOfBoth : GoodIn wsX4_bothAt wsX4_gatherHeavyOfBoth := goodIn_k _ [(wsX4_bothAt_r6, [0]), (wsX4_bothAt_r1, [1]), (wsX4_bothAt_r6, [1]), (wsX4_bothAt_r5, [16, 17, 18]), (wsX4_bothAt_r6, [2, 3, 4, 5]), (wsX4_bothAt_r1, [23, 2, 3]), (wsX4_bothAt_r6, [6]), (wsX4_bothAt_r1, [9]), (wsX4_bothAt_r6, [7, 8, 9]), (wsX4_bothAt_r2, [11]), (wsX4_bothAt_r6, [10]), (wsX4_bothAt_r2, [15, 17]), (wsX4_bothAt_r3, [12, 13, 14, 15, 16, 17, 18, 19, 20]), (wsX4_bothAt_r6, [11, 12, 13, 14]), (wsX4_bothAt_r2, [16]), (wsX4_bothAt_r4, [3, 4, 5, 6, 7, 8, 9, 10, 11]), (wsX4_bothAt_r3, [21, 22, 23]), (wsX4_bothAt_r4, [0, 1, 2, 12, 13, 14, 15, 16, 17, 18, 19, 20, 21, 22, 23]), (wsX4_bothAt_r5, [0, 1, 2, 3]), (wsX4_bothAt_r6, [15, 16, 17, 18, 19, 20, 21, 22, 23]), (wsX4_bothAt_r1, [13]), (wsX4_bothAt_r7, [0, 1, 2, 3, 4, 5, 6]), (wsX4_bothAt_r1, [7]), (wsX4_bothAt_r7, [7]), (wsX40, [0, 1, 2, 3, 4, 5, 6, 7, 8]), (wsX30, [0, 1, 2, 3, 4]), (wsX20, [0, 1, 2, 3, 4, 5, 6, 7, 8, 9, 10]), (wsX00, [0, 1])] (gk_c mi_wsX4_bothAt_wsX4_bothAt_r6 (gk_c mi_wsX4_bothAt_wsX4_bothAt_r1 (gk_c mi_wsX4_bothAt_wsX4_bothAt_r6 (gk_c mi_wsX4_bothAt_wsX4_bothAt_r5 (gk_c mi_wsX4_bothAt_wsX4_bothAt_r6 (gk_c mi_wsX4_bothAt_wsX4_bothAt_r1 (gk_c mi_wsX4_bothAt_wsX4_bothAt_r6 (gk_c mi_wsX4_bothAt_wsX4_bothAt_r1 (gk_c mi_wsX4_bothAt_wsX4_bothAt_r6 (gk_c mi_wsX4_bothAt_wsX4_bothAt_r2 (gk_c mi_wsX4_bothAt_wsX4_bothAt_r6 (gk_c mi_wsX4_bothAt_wsX4_bothAt_r2 (gk_c mi_wsX4_bothAt_wsX4_bothAt_r3 (gk_c mi_wsX4_bothAt_wsX4_bothAt_r6 (gk_c mi_wsX4_bothAt_wsX4_bothAt_r2 (gk_c mi_wsX4_bothAt_wsX4_bothAt_r4 (gk_c mi_wsX4_bothAt_wsX4_bothAt_r3 (gk_c mi_wsX4_bothAt_wsX4_bothAt_r4 (gk_c mi_wsX4_bothAt_wsX4_bothAt_r5 (gk_c mi_wsX4_bothAt_wsX4_bothAt_r6 (gk_c mi_wsX4_bothAt_wsX4_bothAt_r1 (gk_c mi_wsX4_bothAt_wsX4_bothAt_r7 (gk_c mi_wsX4_bothAt_wsX4_bothAt_r1 (gk_c mi_wsX4_bothAt_wsX4_bothAt_r7 (gk_c mi_wsX4_bothAt_wsX40 (gk_c mi_wsX4_bothAt_wsX30 (gk_c mi_wsX4_bothAt_wsX20 (gk_c mi_wsX4_bothAt_wsX00 gk_n)))))))))))))))))))))))))))) rfl (by decide +kernel)
set_option maxRecDepth 20000 in
theorem gX4_bothAt_X4_gatherHeavyOfBoth : GoodIn wsX4_bothAt (wsV RX4 214 RX4 yX4_gatherHeavyOfBoth wsX4_gatherHeavyOfBoth) := goodIn_app (goodIn_k _ [(wsX4_bothAt_r5, [21, 22, 23]), (wsX4_bothAt_r1, [7])] (gk_c mi_wsX4_bothAt_wsX4_bothAt_r5 (gk_c mi_wsX4_bothAt_wsX4_bothAt_r1 gk_n)) rfl (by decide +kernel)) ggX4_bothAt_X4_gatherHeavyOfBoth
def dt_cX4_bothAt_0 : List (Nat × Nat × Nat × Nat) := [(0, 21, 1, 7), (2, 155, 2, 19), (5, 42, 0, 0), (6, 27, 0, 0), (7, 28, 0, 0), (8, 29, 0, 0), (9, 21, 1, 4), (11, 21, 1, 5), (13, 21, 1, 6), (15, 182, 2, 210), (18, 153, 2, 6), (21, 18, 1, 102), (23, 172, 0, 0), (24, 42, 0, 0), (25, 42, 0, 0), (26, 182, 2, 71), (29, 27, 0, 0), (30, 28, 0, 0), (31, 29, 0, 0), (32, 21, 1, 4)]
theorem da_cX4_bothAt_0 : fw dt_cX4_bothAt_0 0 cX4_bothAt.data.toList = true := by decide +kernel
theorem dX4_bothAt_0 : decode cX4_bothAt 0 = .ok (.iload 7, 2) := fo_21 (fw_get da_cX4_bothAt_0 0 rfl)
theorem dX4_bothAt_2 : decode cX4_bothAt 2 = .ok (.ifCond .lt 19, 3) := fo_155 (fw_get da_cX4_bothAt_0 1 rfl) (by decide +kernel)
theorem dX4_bothAt_5 : decode cX4_bothAt 5 = .ok (.aload_n 0, 1) := fo_42 (fw_get da_cX4_bothAt_0 2 rfl)
theorem dX4_bothAt_6 : decode cX4_bothAt 6 = .ok (.iload_n 1, 1) := fo_27 (fw_get da_cX4_bothAt_0 3 rfl)
theorem dX4_bothAt_7 : decode cX4_bothAt 7 = .ok (.iload_n 2, 1) := fo_28 (fw_get da_cX4_bothAt_0 4 rfl)
theorem dX4_bothAt_8 : decode cX4_bothAt 8 = .ok (.iload_n 3, 1) := fo_29 (fw_get da_cX4_bothAt_0 5 rfl)
theorem dX4_bothAt_9 : decode cX4_bothAt 9 = .ok (.iload 4, 2) := fo_21 (fw_get da_cX4_bothAt_0 6 rfl)
theorem dX4_bothAt_11 : decode cX4_bothAt 11 = .ok (.iload 5, 2) := fo_21 (fw_get da_cX4_bothAt_0 7 rfl)
theorem dX4_bothAt_13 : decode cX4_bothAt 13 = .ok (.iload 6, 2) := fo_21 (fw_get da_cX4_bothAt_0 8 rfl)
theorem dX4_bothAt_15 : decode cX4_bothAt 15 = .ok (.invokevirtual 210, 3) := fo_182 (fw_get da_cX4_bothAt_0 9 rfl)
theorem dX4_bothAt_18 : decode cX4_bothAt 18 = .ok (.ifCond .eq 6, 3) := fo_153 (fw_get da_cX4_bothAt_0 10 rfl) (by decide +kernel)
theorem dX4_bothAt_21 : decode cX4_bothAt 21 = .ok (.ldc 102, 2) := fo_18 (fw_get da_cX4_bothAt_0 11 rfl)
theorem dX4_bothAt_23 : decode cX4_bothAt 23 = .ok (.ireturn, 1) := fo_172 (fw_get da_cX4_bothAt_0 12 rfl)
theorem dX4_bothAt_24 : decode cX4_bothAt 24 = .ok (.aload_n 0, 1) := fo_42 (fw_get da_cX4_bothAt_0 13 rfl)
theorem dX4_bothAt_25 : decode cX4_bothAt 25 = .ok (.aload_n 0, 1) := fo_42 (fw_get da_cX4_bothAt_0 14 rfl)
theorem dX4_bothAt_26 : decode cX4_bothAt 26 = .ok (.invokevirtual 71, 3) := fo_182 (fw_get da_cX4_bothAt_0 15 rfl)
theorem dX4_bothAt_29 : decode cX4_bothAt 29 = .ok (.iload_n 1, 1) := fo_27 (fw_get da_cX4_bothAt_0 16 rfl)
theorem dX4_bothAt_30 : decode cX4_bothAt 30 = .ok (.iload_n 2, 1) := fo_28 (fw_get da_cX4_bothAt_0 17 rfl)
theorem dX4_bothAt_31 : decode cX4_bothAt 31 = .ok (.iload_n 3, 1) := fo_29 (fw_get da_cX4_bothAt_0 18 rfl)
theorem dX4_bothAt_32 : decode cX4_bothAt 32 = .ok (.iload 4, 2) := fo_21 (fw_get da_cX4_bothAt_0 19 rfl)
def dt_cX4_bothAt_1 : List (Nat × Nat × Nat × Nat) := [(34, 21, 1, 5), (36, 21, 1, 6), (38, 182, 2, 214), (41, 21, 1, 7), (43, 42, 0, 0), (44, 180, 2, 35), (47, 180, 2, 174), (50, 162, 2, 16), (53, 42, 0, 0), (54, 180, 2, 35), (57, 180, 2, 133), (60, 21, 1, 7), (62, 46, 0, 0), (63, 167, 2, 5), (66, 18, 1, 102), (68, 172, 0, 0)]
theorem da_cX4_bothAt_1 : fw dt_cX4_bothAt_1 0 cX4_bothAt.data.toList = true := by decide +kernel
theorem dX4_bothAt_34 : decode cX4_bothAt 34 = .ok (.iload 5, 2) := fo_21 (fw_get da_cX4_bothAt_1 0 rfl)
theorem dX4_bothAt_36 : decode cX4_bothAt 36 = .ok (.iload 6, 2) := fo_21 (fw_get da_cX4_bothAt_1 1 rfl)
theorem dX4_bothAt_38 : decode cX4_bothAt 38 = .ok (.invokevirtual 214, 3) := fo_182 (fw_get da_cX4_bothAt_1 2 rfl)
theorem dX4_bothAt_41 : decode cX4_bothAt 41 = .ok (.iload 7, 2) := fo_21 (fw_get da_cX4_bothAt_1 3 rfl)
theorem dX4_bothAt_43 : decode cX4_bothAt 43 = .ok (.aload_n 0, 1) := fo_42 (fw_get da_cX4_bothAt_1 4 rfl)
theorem dX4_bothAt_44 : decode cX4_bothAt 44 = .ok (.getfield 35, 3) := fo_180 (fw_get da_cX4_bothAt_1 5 rfl)
theorem dX4_bothAt_47 : decode cX4_bothAt 47 = .ok (.getfield 174, 3) := fo_180 (fw_get da_cX4_bothAt_1 6 rfl)
theorem dX4_bothAt_50 : decode cX4_bothAt 50 = .ok (.if_icmp .ge 16, 3) := fo_162 (fw_get da_cX4_bothAt_1 7 rfl) (by decide +kernel)
theorem dX4_bothAt_53 : decode cX4_bothAt 53 = .ok (.aload_n 0, 1) := fo_42 (fw_get da_cX4_bothAt_1 8 rfl)
theorem dX4_bothAt_54 : decode cX4_bothAt 54 = .ok (.getfield 35, 3) := fo_180 (fw_get da_cX4_bothAt_1 9 rfl)
theorem dX4_bothAt_57 : decode cX4_bothAt 57 = .ok (.getfield 133, 3) := fo_180 (fw_get da_cX4_bothAt_1 10 rfl)
theorem dX4_bothAt_60 : decode cX4_bothAt 60 = .ok (.iload 7, 2) := fo_21 (fw_get da_cX4_bothAt_1 11 rfl)
theorem dX4_bothAt_62 : decode cX4_bothAt 62 = .ok (.iaload, 1) := fo_46 (fw_get da_cX4_bothAt_1 12 rfl)
theorem dX4_bothAt_63 : decode cX4_bothAt 63 = .ok (.goto 5, 3) := fo_167 (fw_get da_cX4_bothAt_1 13 rfl) (by decide +kernel)
theorem dX4_bothAt_66 : decode cX4_bothAt 66 = .ok (.ldc 102, 2) := fo_18 (fw_get da_cX4_bothAt_1 14 rfl)
theorem dX4_bothAt_68 : decode cX4_bothAt 68 = .ok (.ireturn, 1) := fo_172 (fw_get da_cX4_bothAt_1 15 rfl)
theorem mi_wsX4_swings_wsX4_swings_r1 : ∀ w ∈ wsX4_swings_r1, w ∈ wsX4_swings := fun _ h => (List.mem_cons_of_mem _ (List.mem_append_left _ (List.mem_append_left _ (List.mem_append_left _ (List.mem_append_left _ (List.mem_append_left _ h))))))
theorem mi_wsX4_swings_wsX00 : ∀ w ∈ wsX00, w ∈ wsX4_swings := fun _ h => (List.mem_cons_of_mem _ (List.mem_append_left _ (List.mem_append_left _ (List.mem_append_right _ h))))
set_option maxRecDepth 20000 in
theorem ggX4_swings_X0_hasRange : GoodIn wsX4_swings wsX0_hasRange := goodIn_k _ [(wsX4_swings_r1, [5, 6]), (wsX00, [0, 1])] (gk_c mi_wsX4_swings_wsX4_swings_r1 (gk_c mi_wsX4_swings_wsX00 gk_n)) rfl (by decide +kernel)
set_option maxRecDepth 20000 in
theorem gX4_swings_X0_hasRange : GoodIn wsX4_swings (wsV RX4 79 RX0 yX0_hasRange wsX0_hasRange) := goodIn_app (goodIn_k _ [(wsX4_swings_r1, [1, 2, 3, 4])] (gk_c mi_wsX4_swings_wsX4_swings_r1 gk_n) rfl (by decide +kernel)) ggX4_swings_X0_hasRange
set_option maxRecDepth 20000 in
theorem ggX4_swings_X4_isValue : GoodIn wsX4_swings wsX4_isValue := goodIn_k _ [(wsX4_swings_r1, [10])] (gk_c mi_wsX4_swings_wsX4_swings_r1 gk_n) rfl (by decide +kernel)
set_option maxRecDepth 20000 in
theorem gX4_swings_X4_isValue : GoodIn wsX4_swings (va_wsS RX4 68 yX4_isValue wsX4_isValue) := goodIn_app (goodIn_k _ [(wsX4_swings_r1, [7, 8, 9])] (gk_c mi_wsX4_swings_wsX4_swings_r1 gk_n) rfl (by decide +kernel)) ggX4_swings_X4_isValue
theorem mi_wsX4_swings_wsX4_swings_r2 : ∀ w ∈ wsX4_swings_r2, w ∈ wsX4_swings := fun _ h => (List.mem_cons_of_mem _ (List.mem_append_left _ (List.mem_append_left _ (List.mem_append_left _ (List.mem_append_left _ (List.mem_append_right _ (List.mem_append_left _ h)))))))
theorem mi_wsX4_swings_wsX4_swings_r3 : ∀ w ∈ wsX4_swings_r3, w ∈ wsX4_swings := fun _ h => (List.mem_cons_of_mem _ (List.mem_append_left _ (List.mem_append_left _ (List.mem_append_left _ (List.mem_append_left _ (List.mem_append_right _ (List.mem_append_right _ (List.mem_append_left _ h))))))))
theorem mi_wsX4_swings_wsX4_swings_r4 : ∀ w ∈ wsX4_swings_r4, w ∈ wsX4_swings := fun _ h => (List.mem_cons_of_mem _ (List.mem_append_left _ (List.mem_append_left _ (List.mem_append_left _ (List.mem_append_left _ (List.mem_append_right _ (List.mem_append_right _ (List.mem_append_right _ (List.mem_append_left _ h)))))))))
theorem mi_wsX4_swings_wsX4_swings_r5 : ∀ w ∈ wsX4_swings_r5, w ∈ wsX4_swings := fun _ h => (List.mem_cons_of_mem _ (List.mem_append_left _ (List.mem_append_left _ (List.mem_append_left _ (List.mem_append_left _ (List.mem_append_right _ (List.mem_append_right _ (List.mem_append_right _ (List.mem_append_right _ h)))))))))
theorem mi_wsX4_swings_wsX40 : ∀ w ∈ wsX40, w ∈ wsX4_swings := fun _ h => (List.mem_cons_of_mem _ (List.mem_append_left _ (List.mem_append_left _ (List.mem_append_left _ (List.mem_append_right _ h)))))
theorem mi_wsX4_swings_wsX20 : ∀ w ∈ wsX20, w ∈ wsX4_swings := fun _ h => (List.mem_cons_of_mem _ (List.mem_append_left _ (List.mem_append_right _ h)))
theorem mi_wsX4_swings_wsX30 : ∀ w ∈ wsX30, w ∈ wsX4_swings := fun _ h => (List.mem_cons_of_mem _ (List.mem_append_right _ h))
set_option maxRecDepth 20000 in
theorem ggX4_swings_X4_laidTree : GoodIn wsX4_swings wsX4_laidTree := goodIn_k _ [(wsX4_swings_r1, [14, 15, 16, 17, 18, 0, 19, 20, 21, 22, 23]), (wsX4_swings_r2, [0, 1, 2, 3, 4, 5, 6, 7, 8, 9, 10, 11, 12, 13, 14, 15, 16, 17, 18, 19, 20, 21, 22, 23]), (wsX4_swings_r3, [0, 1, 2, 3, 4, 5, 6, 7, 8, 9, 10, 11, 12, 13, 14, 15, 16, 17, 18, 19, 20, 21, 22, 23]), (wsX4_swings_r4, [0, 1, 2, 3, 4, 5, 6, 7, 8, 9, 10, 11, 12, 13, 14, 15, 16, 17, 18, 19, 20, 21, 22, 23]), (wsX4_swings_r5, [0, 1, 2, 3, 4, 5, 6, 7, 8]), (wsX40, [0, 1, 2, 3, 4, 5, 6, 7, 8]), (wsX20, [0, 1, 2, 3, 4, 5, 6, 7, 8, 9, 10]), (wsX00, [0, 1]), (wsX30, [0, 1, 2, 3, 4])] (gk_c mi_wsX4_swings_wsX4_swings_r1 (gk_c mi_wsX4_swings_wsX4_swings_r2 (gk_c mi_wsX4_swings_wsX4_swings_r3 (gk_c mi_wsX4_swings_wsX4_swings_r4 (gk_c mi_wsX4_swings_wsX4_swings_r5 (gk_c mi_wsX4_swings_wsX40 (gk_c mi_wsX4_swings_wsX20 (gk_c mi_wsX4_swings_wsX00 (gk_c mi_wsX4_swings_wsX30 gk_n))))))))) rfl (by decide +kernel)
set_option maxRecDepth 20000 in
theorem gX4_swings_X4_laidTree : GoodIn wsX4_swings (wsV RX4 71 RX4 yX4_laidTree wsX4_laidTree) := goodIn_app (goodIn_k _ [(wsX4_swings_r1, [11, 12, 13, 9])] (gk_c mi_wsX4_swings_wsX4_swings_r1 gk_n) rfl (by decide +kernel)) ggX4_swings_X4_laidTree
set_option maxRecDepth 20000 in
theorem ggX4_swings_X4_rootTotalWith : GoodIn wsX4_swings wsX4_rootTotalWith := goodIn_k _ [(wsX4_swings_r5, [12]), (wsX4_swings_r1, [0]), (wsX4_swings_r5, [13, 14]), (wsX4_swings_r2, [14, 15, 16]), (wsX4_swings_r1, [23]), (wsX4_swings_r2, [17, 3, 4, 5, 18, 19, 20, 21, 22, 1, 23]), (wsX4_swings_r3, [0, 1, 2, 3, 4, 5, 6, 7, 8, 9, 10, 11, 12, 13, 14, 15, 16, 17, 18, 19, 20, 21, 22, 23]), (wsX4_swings_r2, [10, 11, 12, 13]), (wsX4_swings_r4, [0, 1, 2, 3, 4, 5, 6, 7, 8, 9, 10, 11, 12, 13, 14, 15, 16, 17, 18, 19, 20, 21, 22, 23]), (wsX4_swings_r5, [0, 1, 2, 3, 4, 5, 6, 7, 8, 15, 16, 17, 18, 19, 20, 21, 22]), (wsX40, [0, 1, 2, 3, 4, 5, 6, 7, 8]), (wsX00, [0, 1]), (wsX20, [0, 1, 2, 3, 4, 5, 6, 7, 8, 9, 10]), (wsX30, [0, 1, 2, 3, 4])] (gk_c mi_wsX4_swings_wsX4_swings_r5 (gk_c mi_wsX4_swings_wsX4_swings_r1 (gk_c mi_wsX4_swings_wsX4_swings_r5 (gk_c mi_wsX4_swings_wsX4_swings_r2 (gk_c mi_wsX4_swings_wsX4_swings_r1 (gk_c mi_wsX4_swings_wsX4_swings_r2 (gk_c mi_wsX4_swings_wsX4_swings_r3 (gk_c mi_wsX4_swings_wsX4_swings_r2 (gk_c mi_wsX4_swings_wsX4_swings_r4 (gk_c mi_wsX4_swings_wsX4_swings_r5 (gk_c mi_wsX4_swings_wsX40 (gk_c mi_wsX4_swings_wsX00 (gk_c mi_wsX4_swings_wsX20 (gk_c mi_wsX4_swings_wsX30 gk_n)))))))))))))) rfl (by decide +kernel)
set_option maxRecDepth 20000 in
theorem gX4_swings_X4_rootTotalWith : GoodIn wsX4_swings (wsV RX4 246 RX4 yX4_rootTotalWith wsX4_rootTotalWith) := goodIn_app (goodIn_k _ [(wsX4_swings_r5, [9, 10, 11]), (wsX4_swings_r1, [9])] (gk_c mi_wsX4_swings_wsX4_swings_r5 (gk_c mi_wsX4_swings_wsX4_swings_r1 gk_n)) rfl (by decide +kernel)) ggX4_swings_X4_rootTotalWith
def dt_cX4_swings_0 : List (Nat × Nat × Nat × Nat) := [(0, 42, 0, 0), (1, 180, 2, 12), (4, 27, 0, 0), (5, 28, 0, 0), (6, 182, 2, 79), (9, 153, 2, 29), (12, 28, 0, 0), (13, 27, 0, 0), (14, 100, 0, 0), (15, 16, 1, 40), (17, 163, 2, 21), (20, 29, 0, 0), (21, 184, 2, 68), (24, 153, 2, 14), (27, 21, 1, 4), (29, 155, 2, 9), (32, 21, 1, 4), (34, 4, 0, 0), (35, 164, 2, 5), (38, 2, 0, 0)]
theorem da_cX4_swings_0 : fw dt_cX4_swings_0 0 cX4_swings.data.toList = true := by decide +kernel
theorem dX4_swings_0 : decode cX4_swings 0 = .ok (.aload_n 0, 1) := fo_42 (fw_get da_cX4_swings_0 0 rfl)
theorem dX4_swings_1 : decode cX4_swings 1 = .ok (.getfield 12, 3) := fo_180 (fw_get da_cX4_swings_0 1 rfl)
theorem dX4_swings_4 : decode cX4_swings 4 = .ok (.iload_n 1, 1) := fo_27 (fw_get da_cX4_swings_0 2 rfl)
theorem dX4_swings_5 : decode cX4_swings 5 = .ok (.iload_n 2, 1) := fo_28 (fw_get da_cX4_swings_0 3 rfl)
theorem dX4_swings_6 : decode cX4_swings 6 = .ok (.invokevirtual 79, 3) := fo_182 (fw_get da_cX4_swings_0 4 rfl)
theorem dX4_swings_9 : decode cX4_swings 9 = .ok (.ifCond .eq 29, 3) := fo_153 (fw_get da_cX4_swings_0 5 rfl) (by decide +kernel)
theorem dX4_swings_12 : decode cX4_swings 12 = .ok (.iload_n 2, 1) := fo_28 (fw_get da_cX4_swings_0 6 rfl)
theorem dX4_swings_13 : decode cX4_swings 13 = .ok (.iload_n 1, 1) := fo_27 (fw_get da_cX4_swings_0 7 rfl)
theorem dX4_swings_14 : decode cX4_swings 14 = .ok (.isub, 1) := fo_100 (fw_get da_cX4_swings_0 8 rfl)
theorem dX4_swings_15 : decode cX4_swings 15 = .ok (.bipush 40, 2) := fo_16 (fw_get da_cX4_swings_0 9 rfl) (by decide +kernel)
theorem dX4_swings_17 : decode cX4_swings 17 = .ok (.if_icmp .gt 21, 3) := fo_163 (fw_get da_cX4_swings_0 10 rfl) (by decide +kernel)
theorem dX4_swings_20 : decode cX4_swings 20 = .ok (.iload_n 3, 1) := fo_29 (fw_get da_cX4_swings_0 11 rfl)
theorem dX4_swings_21 : decode cX4_swings 21 = .ok (.invokestatic 68, 3) := fo_184 (fw_get da_cX4_swings_0 12 rfl)
theorem dX4_swings_24 : decode cX4_swings 24 = .ok (.ifCond .eq 14, 3) := fo_153 (fw_get da_cX4_swings_0 13 rfl) (by decide +kernel)
theorem dX4_swings_27 : decode cX4_swings 27 = .ok (.iload 4, 2) := fo_21 (fw_get da_cX4_swings_0 14 rfl)
theorem dX4_swings_29 : decode cX4_swings 29 = .ok (.ifCond .lt 9, 3) := fo_155 (fw_get da_cX4_swings_0 15 rfl) (by decide +kernel)
theorem dX4_swings_32 : decode cX4_swings 32 = .ok (.iload 4, 2) := fo_21 (fw_get da_cX4_swings_0 16 rfl)
theorem dX4_swings_34 : decode cX4_swings 34 = .ok (.iconst 1, 1) := fo_4 (fw_get da_cX4_swings_0 17 rfl)
theorem dX4_swings_35 : decode cX4_swings 35 = .ok (.if_icmp .le 5, 3) := fo_164 (fw_get da_cX4_swings_0 18 rfl) (by decide +kernel)
theorem dX4_swings_38 : decode cX4_swings 38 = .ok (.iconst (-1), 1) := fo_2 (fw_get da_cX4_swings_0 19 rfl)
def dt_cX4_swings_1 : List (Nat × Nat × Nat × Nat) := [(39, 172, 0, 0), (40, 42, 0, 0), (41, 182, 2, 71), (44, 58, 1, 5), (46, 2, 0, 0), (47, 54, 1, 6), (49, 2, 0, 0), (50, 54, 1, 7), (52, 27, 0, 0), (53, 54, 1, 8), (55, 21, 1, 8), (57, 28, 0, 0), (58, 162, 2, 35), (61, 42, 0, 0), (62, 25, 1, 5), (64, 21, 1, 8), (66, 29, 0, 0), (67, 182, 2, 246), (70, 54, 1, 9), (72, 21, 1, 9)]
theorem da_cX4_swings_1 : fw dt_cX4_swings_1 0 cX4_swings.data.toList = true := by decide +kernel
theorem dX4_swings_39 : decode cX4_swings 39 = .ok (.ireturn, 1) := fo_172 (fw_get da_cX4_swings_1 0 rfl)
theorem dX4_swings_40 : decode cX4_swings 40 = .ok (.aload_n 0, 1) := fo_42 (fw_get da_cX4_swings_1 1 rfl)
theorem dX4_swings_41 : decode cX4_swings 41 = .ok (.invokevirtual 71, 3) := fo_182 (fw_get da_cX4_swings_1 2 rfl)
theorem dX4_swings_44 : decode cX4_swings 44 = .ok (.astore 5, 2) := fo_58 (fw_get da_cX4_swings_1 3 rfl)
theorem dX4_swings_46 : decode cX4_swings 46 = .ok (.iconst (-1), 1) := fo_2 (fw_get da_cX4_swings_1 4 rfl)
theorem dX4_swings_47 : decode cX4_swings 47 = .ok (.istore 6, 2) := fo_54 (fw_get da_cX4_swings_1 5 rfl)
theorem dX4_swings_49 : decode cX4_swings 49 = .ok (.iconst (-1), 1) := fo_2 (fw_get da_cX4_swings_1 6 rfl)
theorem dX4_swings_50 : decode cX4_swings 50 = .ok (.istore 7, 2) := fo_54 (fw_get da_cX4_swings_1 7 rfl)
theorem dX4_swings_52 : decode cX4_swings 52 = .ok (.iload_n 1, 1) := fo_27 (fw_get da_cX4_swings_1 8 rfl)
theorem dX4_swings_53 : decode cX4_swings 53 = .ok (.istore 8, 2) := fo_54 (fw_get da_cX4_swings_1 9 rfl)
theorem dX4_swings_55 : decode cX4_swings 55 = .ok (.iload 8, 2) := fo_21 (fw_get da_cX4_swings_1 10 rfl)
theorem dX4_swings_57 : decode cX4_swings 57 = .ok (.iload_n 2, 1) := fo_28 (fw_get da_cX4_swings_1 11 rfl)
theorem dX4_swings_58 : decode cX4_swings 58 = .ok (.if_icmp .ge 35, 3) := fo_162 (fw_get da_cX4_swings_1 12 rfl) (by decide +kernel)
theorem dX4_swings_61 : decode cX4_swings 61 = .ok (.aload_n 0, 1) := fo_42 (fw_get da_cX4_swings_1 13 rfl)
theorem dX4_swings_62 : decode cX4_swings 62 = .ok (.aload 5, 2) := fo_25 (fw_get da_cX4_swings_1 14 rfl)
theorem dX4_swings_64 : decode cX4_swings 64 = .ok (.iload 8, 2) := fo_21 (fw_get da_cX4_swings_1 15 rfl)
theorem dX4_swings_66 : decode cX4_swings 66 = .ok (.iload_n 3, 1) := fo_29 (fw_get da_cX4_swings_1 16 rfl)
theorem dX4_swings_67 : decode cX4_swings 67 = .ok (.invokevirtual 246, 3) := fo_182 (fw_get da_cX4_swings_1 17 rfl)
theorem dX4_swings_70 : decode cX4_swings 70 = .ok (.istore 9, 2) := fo_54 (fw_get da_cX4_swings_1 18 rfl)
theorem dX4_swings_72 : decode cX4_swings 72 = .ok (.iload 9, 2) := fo_21 (fw_get da_cX4_swings_1 19 rfl)
def dt_cX4_swings_2 : List (Nat × Nat × Nat × Nat) := [(74, 21, 1, 7), (76, 164, 2, 11), (79, 21, 1, 8), (81, 54, 1, 6), (83, 21, 1, 9), (85, 54, 1, 7), (87, 132, 2, 2049), (90, 167, 2, 65501), (93, 21, 1, 4), (95, 154, 2, 8), (98, 21, 1, 6), (100, 167, 2, 5), (103, 21, 1, 7), (105, 172, 0, 0)]
theorem da_cX4_swings_2 : fw dt_cX4_swings_2 0 cX4_swings.data.toList = true := by decide +kernel
theorem dX4_swings_74 : decode cX4_swings 74 = .ok (.iload 7, 2) := fo_21 (fw_get da_cX4_swings_2 0 rfl)
theorem dX4_swings_76 : decode cX4_swings 76 = .ok (.if_icmp .le 11, 3) := fo_164 (fw_get da_cX4_swings_2 1 rfl) (by decide +kernel)
theorem dX4_swings_79 : decode cX4_swings 79 = .ok (.iload 8, 2) := fo_21 (fw_get da_cX4_swings_2 2 rfl)
theorem dX4_swings_81 : decode cX4_swings 81 = .ok (.istore 6, 2) := fo_54 (fw_get da_cX4_swings_2 3 rfl)
theorem dX4_swings_83 : decode cX4_swings 83 = .ok (.iload 9, 2) := fo_21 (fw_get da_cX4_swings_2 4 rfl)
theorem dX4_swings_85 : decode cX4_swings 85 = .ok (.istore 7, 2) := fo_54 (fw_get da_cX4_swings_2 5 rfl)
theorem dX4_swings_87 : decode cX4_swings 87 = .ok (.iinc 8 1, 3) := fo_132 (fw_get da_cX4_swings_2 6 rfl) rfl (by decide +kernel)
theorem dX4_swings_90 : decode cX4_swings 90 = .ok (.goto (-35), 3) := fo_167 (fw_get da_cX4_swings_2 7 rfl) (by decide +kernel)
theorem dX4_swings_93 : decode cX4_swings 93 = .ok (.iload 4, 2) := fo_21 (fw_get da_cX4_swings_2 8 rfl)
theorem dX4_swings_95 : decode cX4_swings 95 = .ok (.ifCond .ne 8, 3) := fo_154 (fw_get da_cX4_swings_2 9 rfl) (by decide +kernel)
theorem dX4_swings_98 : decode cX4_swings 98 = .ok (.iload 6, 2) := fo_21 (fw_get da_cX4_swings_2 10 rfl)
theorem dX4_swings_100 : decode cX4_swings 100 = .ok (.goto 5, 3) := fo_167 (fw_get da_cX4_swings_2 11 rfl) (by decide +kernel)
theorem dX4_swings_103 : decode cX4_swings 103 = .ok (.iload 7, 2) := fo_21 (fw_get da_cX4_swings_2 12 rfl)
theorem dX4_swings_105 : decode cX4_swings 105 = .ok (.ireturn, 1) := fo_172 (fw_get da_cX4_swings_2 13 rfl)
theorem mi_wsX4_told_wsX4_told_r1 : ∀ w ∈ wsX4_told_r1, w ∈ wsX4_told := fun _ h => (List.mem_cons_of_mem _ (List.mem_append_left _ (List.mem_append_left _ (List.mem_append_left _ (List.mem_append_left _ (List.mem_append_left _ h))))))
theorem mi_wsX4_told_wsX4_told_r2 : ∀ w ∈ wsX4_told_r2, w ∈ wsX4_told := fun _ h => (List.mem_cons_of_mem _ (List.mem_append_left _ (List.mem_append_left _ (List.mem_append_left _ (List.mem_append_left _ (List.mem_append_right _ (List.mem_append_left _ h)))))))
theorem mi_wsX4_told_wsX4_told_r3 : ∀ w ∈ wsX4_told_r3, w ∈ wsX4_told := fun _ h => (List.mem_cons_of_mem _ (List.mem_append_left _ (List.mem_append_left _ (List.mem_append_left _ (List.mem_append_left _ (List.mem_append_right _ (List.mem_append_right _ (List.mem_append_left _ h))))))))
theorem mi_wsX4_told_wsX4_told_r4 : ∀ w ∈ wsX4_told_r4, w ∈ wsX4_told := fun _ h => (List.mem_cons_of_mem _ (List.mem_append_left _ (List.mem_append_left _ (List.mem_append_left _ (List.mem_append_left _ (List.mem_append_right _ (List.mem_append_right _ (List.mem_append_right _ (List.mem_append_left _ h)))))))))
theorem mi_wsX4_told_wsX4_told_r5 : ∀ w ∈ wsX4_told_r5, w ∈ wsX4_told := fun _ h => (List.mem_cons_of_mem _ (List.mem_append_left _ (List.mem_append_left _ (List.mem_append_left _ (List.mem_append_left _ (List.mem_append_right _ (List.mem_append_right _ (List.mem_append_right _ (List.mem_append_right _ (List.mem_append_left _ h))))))))))
theorem mi_wsX4_told_wsX40 : ∀ w ∈ wsX40, w ∈ wsX4_told := fun _ h => (List.mem_cons_of_mem _ (List.mem_append_left _ (List.mem_append_left _ (List.mem_append_left _ (List.mem_append_right _ h)))))
theorem mi_wsX4_told_wsX20 : ∀ w ∈ wsX20, w ∈ wsX4_told := fun _ h => (List.mem_cons_of_mem _ (List.mem_append_left _ (List.mem_append_right _ h)))
theorem mi_wsX4_told_wsX00 : ∀ w ∈ wsX00, w ∈ wsX4_told := fun _ h => (List.mem_cons_of_mem _ (List.mem_append_left _ (List.mem_append_left _ (List.mem_append_right _ h))))
theorem mi_wsX4_told_wsX30 : ∀ w ∈ wsX30, w ∈ wsX4_told := fun _ h => (List.mem_cons_of_mem _ (List.mem_append_right _ h))
set_option maxRecDepth 20000 in
theorem ggX4_told_X4_laidTree : GoodIn wsX4_told wsX4_laidTree := goodIn_k _ [(wsX4_told_r1, [9, 10, 11, 2, 12, 0, 1, 13, 14, 15, 16, 17, 18, 19, 20, 21, 22, 23]), (wsX4_told_r2, [0, 1, 2, 3, 4, 5, 6, 7, 8, 9, 10, 11, 12, 13, 14, 15, 16, 17, 18, 19, 20, 21, 22, 23]), (wsX4_told_r3, [0, 1, 2, 3, 4, 5, 6, 7, 8, 9, 10, 11, 12, 13, 14, 15, 16, 17, 18, 19, 20, 21, 22, 23]), (wsX4_told_r4, [0, 1, 2, 3, 4, 5, 6, 7, 8, 9, 10, 11, 12, 13, 14, 15, 16, 17, 18, 19, 20, 21, 22, 23]), (wsX4_told_r5, [0, 1]), (wsX40, [0, 1, 2, 3, 4, 5, 6, 7, 8]), (wsX20, [0, 1, 2, 3, 4, 5, 6, 7, 8, 9, 10]), (wsX00, [0, 1]), (wsX30, [0, 1, 2, 3, 4])] (gk_c mi_wsX4_told_wsX4_told_r1 (gk_c mi_wsX4_told_wsX4_told_r2 (gk_c mi_wsX4_told_wsX4_told_r3 (gk_c mi_wsX4_told_wsX4_told_r4 (gk_c mi_wsX4_told_wsX4_told_r5 (gk_c mi_wsX4_told_wsX40 (gk_c mi_wsX4_told_wsX20 (gk_c mi_wsX4_told_wsX00 (gk_c mi_wsX4_told_wsX30 gk_n))))))))) rfl (by decide +kernel)
set_option maxRecDepth 20000 in
theorem gX4_told_X4_laidTree : GoodIn wsX4_told (wsV RX4 71 RX4 yX4_laidTree wsX4_laidTree) := goodIn_app (goodIn_k _ [(wsX4_told_r1, [5, 6, 7, 8])] (gk_c mi_wsX4_told_wsX4_told_r1 gk_n) rfl (by decide +kernel)) ggX4_told_X4_laidTree
set_option maxRecDepth 20000 in
theorem ggX4_told_X2_nodesWithMajority : GoodIn wsX4_told wsX2_nodesWithMajority := goodIn_k _ [(wsX4_told_r5, [5]), (wsX4_told_r1, [20, 18, 21, 22]), (wsX4_told_r5, [6, 7, 8, 9, 10, 11, 12, 13, 14, 15, 16, 17, 18]), (wsX4_told_r1, [8]), (wsX4_told_r5, [19]), (wsX20, [0, 1, 2, 3, 4, 5, 6, 7, 8, 9, 10]), (wsX00, [0, 1])] (gk_c mi_wsX4_told_wsX4_told_r5 (gk_c mi_wsX4_told_wsX4_told_r1 (gk_c mi_wsX4_told_wsX4_told_r5 (gk_c mi_wsX4_told_wsX4_told_r1 (gk_c mi_wsX4_told_wsX4_told_r5 (gk_c mi_wsX4_told_wsX20 (gk_c mi_wsX4_told_wsX00 gk_n))))))) rfl (by decide +kernel)
set_option maxRecDepth 20000 in
theorem gX4_told_X2_nodesWithMajority : GoodIn wsX4_told (wsV RX4 250 RX2 yX2_nodesWithMajority wsX2_nodesWithMajority) := goodIn_app (goodIn_k _ [(wsX4_told_r5, [2, 3, 4]), (wsX4_told_r1, [16])] (gk_c mi_wsX4_told_wsX4_told_r5 (gk_c mi_wsX4_told_wsX4_told_r1 gk_n)) rfl (by decide +kernel)) ggX4_told_X2_nodesWithMajority
set_option maxRecDepth 20000 in
theorem ggX4_told_X2_deepest : GoodIn wsX4_told wsX2_deepest := goodIn_k _ [(wsX4_told_r5, [23]), (wsX4_told_r1, [20, 18, 19]), (wsX20, [0, 1, 2, 3, 4, 5, 6, 7, 8, 9, 10]), (wsX00, [0, 1])] (gk_c mi_wsX4_told_wsX4_told_r5 (gk_c mi_wsX4_told_wsX4_told_r1 (gk_c mi_wsX4_told_wsX20 (gk_c mi_wsX4_told_wsX00 gk_n)))) rfl (by decide +kernel)
set_option maxRecDepth 20000 in
theorem gX4_told_X2_deepest : GoodIn wsX4_told (wsV RX4 253 RX2 yX2_deepest wsX2_deepest) := goodIn_app (goodIn_k _ [(wsX4_told_r5, [20, 21, 22]), (wsX4_told_r1, [16])] (gk_c mi_wsX4_told_wsX4_told_r5 (gk_c mi_wsX4_told_wsX4_told_r1 gk_n)) rfl (by decide +kernel)) ggX4_told_X2_deepest
theorem mi_wsX4_told_wsX4_told_r6 : ∀ w ∈ wsX4_told_r6, w ∈ wsX4_told := fun _ h => (List.mem_cons_of_mem _ (List.mem_append_left _ (List.mem_append_left _ (List.mem_append_left _ (List.mem_append_left _ (List.mem_append_right _ (List.mem_append_right _ (List.mem_append_right _ (List.mem_append_right _ (List.mem_append_right _ h))))))))))
set_option maxRecDepth 20000 in
theorem ggX4_told_X2_allLosses : GoodIn wsX4_told wsX2_allLosses := goodIn_k _ [(wsX4_told_r6, [3]), (wsX4_told_r1, [20]), (wsX4_told_r3, [16]), (wsX20, [0, 1, 2, 3, 4, 5, 6, 7, 8, 9, 10])] (gk_c mi_wsX4_told_wsX4_told_r6 (gk_c mi_wsX4_told_wsX4_told_r1 (gk_c mi_wsX4_told_wsX4_told_r3 (gk_c mi_wsX4_told_wsX20 gk_n)))) rfl (by decide +kernel)
set_option maxRecDepth 20000 in
theorem gX4_told_X2_allLosses : GoodIn wsX4_told (wsV RX4 256 RX2 yX2_allLosses wsX2_allLosses) := goodIn_app (goodIn_k _ [(wsX4_told_r6, [0, 1, 2]), (wsX4_told_r1, [16])] (gk_c mi_wsX4_told_wsX4_told_r6 (gk_c mi_wsX4_told_wsX4_told_r1 gk_n)) rfl (by decide +kernel)) ggX4_told_X2_allLosses
def dt_cX4_told_0 : List (Nat × Nat × Nat × Nat) := [(0, 27, 0, 0)]
theorem da_cX4_told_0 : fw dt_cX4_told_0 0 cX4_told.data.toList = true := by decide +kernel
theorem dX4_told_0 : decode cX4_told 0 = .ok (.iload_n 1, 1) := fo_27 (fw_get da_cX4_told_0 0 rfl)
theorem dX4_told_1 : decode cX4_told 1 = .ok (.tableswitch 112 0 6 #[43, 51, 56, 64, 72, 80, 104], 43) := by decide +kernel
def dt_cX4_told_1 : List (Nat × Nat × Nat × Nat) := [(44, 42, 0, 0), (45, 180, 2, 12), (48, 180, 2, 57), (51, 172, 0, 0), (52, 42, 0, 0), (53, 180, 2, 49), (56, 172, 0, 0), (57, 42, 0, 0), (58, 182, 2, 71), (61, 180, 2, 163), (64, 172, 0, 0), (65, 42, 0, 0), (66, 182, 2, 71), (69, 182, 2, 250), (72, 172, 0, 0), (73, 42, 0, 0), (74, 182, 2, 71), (77, 182, 2, 253), (80, 172, 0, 0), (81, 42, 0, 0)]
theorem da_cX4_told_1 : fw dt_cX4_told_1 0 cX4_told.data.toList = true := by decide +kernel
theorem dX4_told_44 : decode cX4_told 44 = .ok (.aload_n 0, 1) := fo_42 (fw_get da_cX4_told_1 0 rfl)
theorem dX4_told_45 : decode cX4_told 45 = .ok (.getfield 12, 3) := fo_180 (fw_get da_cX4_told_1 1 rfl)
theorem dX4_told_48 : decode cX4_told 48 = .ok (.getfield 57, 3) := fo_180 (fw_get da_cX4_told_1 2 rfl)
theorem dX4_told_51 : decode cX4_told 51 = .ok (.ireturn, 1) := fo_172 (fw_get da_cX4_told_1 3 rfl)
theorem dX4_told_52 : decode cX4_told 52 = .ok (.aload_n 0, 1) := fo_42 (fw_get da_cX4_told_1 4 rfl)
theorem dX4_told_53 : decode cX4_told 53 = .ok (.getfield 49, 3) := fo_180 (fw_get da_cX4_told_1 5 rfl)
theorem dX4_told_56 : decode cX4_told 56 = .ok (.ireturn, 1) := fo_172 (fw_get da_cX4_told_1 6 rfl)
theorem dX4_told_57 : decode cX4_told 57 = .ok (.aload_n 0, 1) := fo_42 (fw_get da_cX4_told_1 7 rfl)
theorem dX4_told_58 : decode cX4_told 58 = .ok (.invokevirtual 71, 3) := fo_182 (fw_get da_cX4_told_1 8 rfl)
theorem dX4_told_61 : decode cX4_told 61 = .ok (.getfield 163, 3) := fo_180 (fw_get da_cX4_told_1 9 rfl)
theorem dX4_told_64 : decode cX4_told 64 = .ok (.ireturn, 1) := fo_172 (fw_get da_cX4_told_1 10 rfl)
theorem dX4_told_65 : decode cX4_told 65 = .ok (.aload_n 0, 1) := fo_42 (fw_get da_cX4_told_1 11 rfl)
theorem dX4_told_66 : decode cX4_told 66 = .ok (.invokevirtual 71, 3) := fo_182 (fw_get da_cX4_told_1 12 rfl)
theorem dX4_told_69 : decode cX4_told 69 = .ok (.invokevirtual 250, 3) := fo_182 (fw_get da_cX4_told_1 13 rfl)
theorem dX4_told_72 : decode cX4_told 72 = .ok (.ireturn, 1) := fo_172 (fw_get da_cX4_told_1 14 rfl)
theorem dX4_told_73 : decode cX4_told 73 = .ok (.aload_n 0, 1) := fo_42 (fw_get da_cX4_told_1 15 rfl)
theorem dX4_told_74 : decode cX4_told 74 = .ok (.invokevirtual 71, 3) := fo_182 (fw_get da_cX4_told_1 16 rfl)
theorem dX4_told_77 : decode cX4_told 77 = .ok (.invokevirtual 253, 3) := fo_182 (fw_get da_cX4_told_1 17 rfl)
theorem dX4_told_80 : decode cX4_told 80 = .ok (.ireturn, 1) := fo_172 (fw_get da_cX4_told_1 18 rfl)
theorem dX4_told_81 : decode cX4_told 81 = .ok (.aload_n 0, 1) := fo_42 (fw_get da_cX4_told_1 19 rfl)
def dt_cX4_told_2 : List (Nat × Nat × Nat × Nat) := [(82, 180, 2, 12), (85, 180, 2, 57), (88, 154, 2, 7), (91, 3, 0, 0), (92, 167, 2, 12), (95, 42, 0, 0), (96, 182, 2, 71), (99, 180, 2, 139), (102, 3, 0, 0), (103, 46, 0, 0), (104, 172, 0, 0), (105, 42, 0, 0), (106, 182, 2, 71), (109, 182, 2, 256), (112, 172, 0, 0), (113, 2, 0, 0), (114, 172, 0, 0)]
theorem da_cX4_told_2 : fw dt_cX4_told_2 0 cX4_told.data.toList = true := by decide +kernel
theorem dX4_told_82 : decode cX4_told 82 = .ok (.getfield 12, 3) := fo_180 (fw_get da_cX4_told_2 0 rfl)
theorem dX4_told_85 : decode cX4_told 85 = .ok (.getfield 57, 3) := fo_180 (fw_get da_cX4_told_2 1 rfl)
theorem dX4_told_88 : decode cX4_told 88 = .ok (.ifCond .ne 7, 3) := fo_154 (fw_get da_cX4_told_2 2 rfl) (by decide +kernel)
theorem dX4_told_91 : decode cX4_told 91 = .ok (.iconst 0, 1) := fo_3 (fw_get da_cX4_told_2 3 rfl)
theorem dX4_told_92 : decode cX4_told 92 = .ok (.goto 12, 3) := fo_167 (fw_get da_cX4_told_2 4 rfl) (by decide +kernel)
theorem dX4_told_95 : decode cX4_told 95 = .ok (.aload_n 0, 1) := fo_42 (fw_get da_cX4_told_2 5 rfl)
theorem dX4_told_96 : decode cX4_told 96 = .ok (.invokevirtual 71, 3) := fo_182 (fw_get da_cX4_told_2 6 rfl)
theorem dX4_told_99 : decode cX4_told 99 = .ok (.getfield 139, 3) := fo_180 (fw_get da_cX4_told_2 7 rfl)
theorem dX4_told_102 : decode cX4_told 102 = .ok (.iconst 0, 1) := fo_3 (fw_get da_cX4_told_2 8 rfl)
theorem dX4_told_103 : decode cX4_told 103 = .ok (.iaload, 1) := fo_46 (fw_get da_cX4_told_2 9 rfl)
theorem dX4_told_104 : decode cX4_told 104 = .ok (.ireturn, 1) := fo_172 (fw_get da_cX4_told_2 10 rfl)
theorem dX4_told_105 : decode cX4_told 105 = .ok (.aload_n 0, 1) := fo_42 (fw_get da_cX4_told_2 11 rfl)
theorem dX4_told_106 : decode cX4_told 106 = .ok (.invokevirtual 71, 3) := fo_182 (fw_get da_cX4_told_2 12 rfl)
theorem dX4_told_109 : decode cX4_told 109 = .ok (.invokevirtual 256, 3) := fo_182 (fw_get da_cX4_told_2 13 rfl)
theorem dX4_told_112 : decode cX4_told 112 = .ok (.ireturn, 1) := fo_172 (fw_get da_cX4_told_2 14 rfl)
theorem dX4_told_113 : decode cX4_told 113 = .ok (.iconst (-1), 1) := fo_2 (fw_get da_cX4_told_2 15 rfl)
theorem dX4_told_114 : decode cX4_told 114 = .ok (.ireturn, 1) := fo_172 (fw_get da_cX4_told_2 16 rfl)
theorem mi_wsX4_overwrite_wsX4_overwrite_r1 : ∀ w ∈ wsX4_overwrite_r1, w ∈ wsX4_overwrite := fun _ h => (List.mem_cons_of_mem _ (List.mem_append_left _ (List.mem_append_left _ (List.mem_append_left _ (List.mem_append_left _ (List.mem_append_left _ h))))))
theorem mi_wsX4_overwrite_wsX4_overwrite_r2 : ∀ w ∈ wsX4_overwrite_r2, w ∈ wsX4_overwrite := fun _ h => (List.mem_cons_of_mem _ (List.mem_append_left _ (List.mem_append_left _ (List.mem_append_left _ (List.mem_append_left _ (List.mem_append_right _ (List.mem_append_left _ h)))))))
theorem mi_wsX4_overwrite_wsX4_overwrite_r3 : ∀ w ∈ wsX4_overwrite_r3, w ∈ wsX4_overwrite := fun _ h => (List.mem_cons_of_mem _ (List.mem_append_left _ (List.mem_append_left _ (List.mem_append_left _ (List.mem_append_left _ (List.mem_append_right _ (List.mem_append_right _ (List.mem_append_left _ h))))))))
theorem mi_wsX4_overwrite_wsX4_overwrite_r4 : ∀ w ∈ wsX4_overwrite_r4, w ∈ wsX4_overwrite := fun _ h => (List.mem_cons_of_mem _ (List.mem_append_left _ (List.mem_append_left _ (List.mem_append_left _ (List.mem_append_left _ (List.mem_append_right _ (List.mem_append_right _ (List.mem_append_right _ h))))))))
theorem mi_wsX4_overwrite_wsX20 : ∀ w ∈ wsX20, w ∈ wsX4_overwrite := fun _ h => (List.mem_cons_of_mem _ (List.mem_append_left _ (List.mem_append_right _ h)))
theorem mi_wsX4_overwrite_wsX00 : ∀ w ∈ wsX00, w ∈ wsX4_overwrite := fun _ h => (List.mem_cons_of_mem _ (List.mem_append_left _ (List.mem_append_left _ (List.mem_append_right _ h))))
theorem mi_wsX4_overwrite_wsX30 : ∀ w ∈ wsX30, w ∈ wsX4_overwrite := fun _ h => (List.mem_cons_of_mem _ (List.mem_append_right _ h))
set_option maxRecDepth 20000 in
theorem ggX4_overwrite_X2_renew : GoodIn wsX4_overwrite wsX2_renew := goodIn_k _ [(wsX4_overwrite_r1, [6, 7, 8, 9, 10, 11, 12, 5, 13, 14, 15, 16, 17, 18, 19, 20, 21, 22, 23]), (wsX4_overwrite_r2, [0, 1, 2, 3, 4, 5, 6, 7, 8, 9, 10, 11, 12, 13, 14, 15, 16, 17, 18, 19, 20, 21, 22, 23]), (wsX4_overwrite_r3, [0, 1, 2, 3, 4, 5, 6, 7, 8, 9, 10, 11, 12, 13, 14, 15, 16, 17, 18, 19, 20, 21, 22, 23]), (wsX4_overwrite_r4, [0, 1, 2, 3, 4, 5]), (wsX20, [0, 1, 2, 3, 4, 5, 6, 7, 8, 9, 10]), (wsX00, [0, 1]), (wsX30, [0, 1, 2, 3, 4])] (gk_c mi_wsX4_overwrite_wsX4_overwrite_r1 (gk_c mi_wsX4_overwrite_wsX4_overwrite_r2 (gk_c mi_wsX4_overwrite_wsX4_overwrite_r3 (gk_c mi_wsX4_overwrite_wsX4_overwrite_r4 (gk_c mi_wsX4_overwrite_wsX20 (gk_c mi_wsX4_overwrite_wsX00 (gk_c mi_wsX4_overwrite_wsX30 gk_n))))))) rfl (by decide +kernel)
set_option maxRecDepth 20000 in
theorem gX4_overwrite_X2_renew : GoodIn wsX4_overwrite (wsV RX4 87 RX2 yX2_renew wsX2_renew) := goodIn_app (goodIn_k _ [(wsX4_overwrite_r1, [2, 3, 4, 5])] (gk_c mi_wsX4_overwrite_wsX4_overwrite_r1 gk_n) rfl (by decide +kernel)) ggX4_overwrite_X2_renew
def dt_cX4_overwrite_0 : List (Nat × Nat × Nat × Nat) := [(0, 28, 0, 0), (1, 54, 1, 5), (3, 21, 1, 5), (5, 29, 0, 0), (6, 162, 2, 21), (9, 42, 0, 0), (10, 180, 2, 12), (13, 180, 2, 110), (16, 21, 1, 5), (18, 21, 1, 4), (20, 79, 0, 0), (21, 132, 2, 1281), (24, 167, 2, 65515), (27, 43, 0, 0), (28, 28, 0, 0), (29, 29, 0, 0), (30, 182, 2, 87), (33, 172, 0, 0)]
theorem da_cX4_overwrite_0 : fw dt_cX4_overwrite_0 0 cX4_overwrite.data.toList = true := by decide +kernel
theorem dX4_overwrite_0 : decode cX4_overwrite 0 = .ok (.iload_n 2, 1) := fo_28 (fw_get da_cX4_overwrite_0 0 rfl)
theorem dX4_overwrite_1 : decode cX4_overwrite 1 = .ok (.istore 5, 2) := fo_54 (fw_get da_cX4_overwrite_0 1 rfl)
theorem dX4_overwrite_3 : decode cX4_overwrite 3 = .ok (.iload 5, 2) := fo_21 (fw_get da_cX4_overwrite_0 2 rfl)
theorem dX4_overwrite_5 : decode cX4_overwrite 5 = .ok (.iload_n 3, 1) := fo_29 (fw_get da_cX4_overwrite_0 3 rfl)
theorem dX4_overwrite_6 : decode cX4_overwrite 6 = .ok (.if_icmp .ge 21, 3) := fo_162 (fw_get da_cX4_overwrite_0 4 rfl) (by decide +kernel)
theorem dX4_overwrite_9 : decode cX4_overwrite 9 = .ok (.aload_n 0, 1) := fo_42 (fw_get da_cX4_overwrite_0 5 rfl)
theorem dX4_overwrite_10 : decode cX4_overwrite 10 = .ok (.getfield 12, 3) := fo_180 (fw_get da_cX4_overwrite_0 6 rfl)
theorem dX4_overwrite_13 : decode cX4_overwrite 13 = .ok (.getfield 110, 3) := fo_180 (fw_get da_cX4_overwrite_0 7 rfl)
theorem dX4_overwrite_16 : decode cX4_overwrite 16 = .ok (.iload 5, 2) := fo_21 (fw_get da_cX4_overwrite_0 8 rfl)
theorem dX4_overwrite_18 : decode cX4_overwrite 18 = .ok (.iload 4, 2) := fo_21 (fw_get da_cX4_overwrite_0 9 rfl)
theorem dX4_overwrite_20 : decode cX4_overwrite 20 = .ok (.iastore, 1) := fo_79 (fw_get da_cX4_overwrite_0 10 rfl)
theorem dX4_overwrite_21 : decode cX4_overwrite 21 = .ok (.iinc 5 1, 3) := fo_132 (fw_get da_cX4_overwrite_0 11 rfl) rfl (by decide +kernel)
theorem dX4_overwrite_24 : decode cX4_overwrite 24 = .ok (.goto (-21), 3) := fo_167 (fw_get da_cX4_overwrite_0 12 rfl) (by decide +kernel)
theorem dX4_overwrite_27 : decode cX4_overwrite 27 = .ok (.aload_n 1, 1) := fo_43 (fw_get da_cX4_overwrite_0 13 rfl)
theorem dX4_overwrite_28 : decode cX4_overwrite 28 = .ok (.iload_n 2, 1) := fo_28 (fw_get da_cX4_overwrite_0 14 rfl)
theorem dX4_overwrite_29 : decode cX4_overwrite 29 = .ok (.iload_n 3, 1) := fo_29 (fw_get da_cX4_overwrite_0 15 rfl)
theorem dX4_overwrite_30 : decode cX4_overwrite 30 = .ok (.invokevirtual 87, 3) := fo_182 (fw_get da_cX4_overwrite_0 16 rfl)
theorem dX4_overwrite_33 : decode cX4_overwrite 33 = .ok (.ireturn, 1) := fo_172 (fw_get da_cX4_overwrite_0 17 rfl)
set_option maxRecDepth 20000 in
theorem ggX4_refusalOfBoth_X0_hasRange : GoodIn wsX4_refusalOfBoth wsX0_hasRange := goodIn_r _ [6, 7, 26, 27] rfl (by decide +kernel)
set_option maxRecDepth 20000 in
theorem gX4_refusalOfBoth_X0_hasRange : GoodIn wsX4_refusalOfBoth (wsV RX4 79 RX0 yX0_hasRange wsX0_hasRange) := goodIn_app (goodIn_r _ [2, 3, 4, 5] rfl (by decide +kernel)) ggX4_refusalOfBoth_X0_hasRange
set_option maxRecDepth 20000 in
theorem ggX4_refusalOfBoth_X4_isShare : GoodIn wsX4_refusalOfBoth wsX4_isShare := goodIn_r _ [11] rfl (by decide +kernel)
set_option maxRecDepth 20000 in
theorem gX4_refusalOfBoth_X4_isShare : GoodIn wsX4_refusalOfBoth (va_wsS RX4 186 yX4_isShare wsX4_isShare) := goodIn_app (goodIn_r _ [8, 9, 10] rfl (by decide +kernel)) ggX4_refusalOfBoth_X4_isShare
set_option maxRecDepth 20000 in
theorem ggX4_refusalOfBoth_X4_isEnough : GoodIn wsX4_refusalOfBoth wsX4_isEnough := goodIn_r _ [15, 16, 17, 18, 19, 20, 21, 22, 23, 24, 25] rfl (by decide +kernel)
set_option maxRecDepth 20000 in
theorem gX4_refusalOfBoth_X4_isEnough : GoodIn wsX4_refusalOfBoth (wsV RX4 189 RX4 yX4_isEnough wsX4_isEnough) := goodIn_app (goodIn_r _ [12, 13, 14, 10] rfl (by decide +kernel)) ggX4_refusalOfBoth_X4_isEnough
def dt_cX4_refusalOfBoth_0 : List (Nat × Nat × Nat × Nat) := [(0, 42, 0, 0), (1, 180, 2, 12), (4, 27, 0, 0), (5, 28, 0, 0), (6, 182, 2, 79), (9, 153, 2, 26), (12, 42, 0, 0), (13, 180, 2, 12), (16, 29, 0, 0), (17, 21, 1, 4), (19, 182, 2, 79), (22, 153, 2, 13), (25, 21, 1, 5), (27, 21, 1, 6), (29, 184, 2, 186), (32, 154, 2, 5), (35, 2, 0, 0), (36, 172, 0, 0), (37, 42, 0, 0), (38, 21, 1, 5)]
theorem da_cX4_refusalOfBoth_0 : fw dt_cX4_refusalOfBoth_0 0 cX4_refusalOfBoth.data.toList = true := by decide +kernel
theorem dX4_refusalOfBoth_0 : decode cX4_refusalOfBoth 0 = .ok (.aload_n 0, 1) := fo_42 (fw_get da_cX4_refusalOfBoth_0 0 rfl)
theorem dX4_refusalOfBoth_1 : decode cX4_refusalOfBoth 1 = .ok (.getfield 12, 3) := fo_180 (fw_get da_cX4_refusalOfBoth_0 1 rfl)
theorem dX4_refusalOfBoth_4 : decode cX4_refusalOfBoth 4 = .ok (.iload_n 1, 1) := fo_27 (fw_get da_cX4_refusalOfBoth_0 2 rfl)
theorem dX4_refusalOfBoth_5 : decode cX4_refusalOfBoth 5 = .ok (.iload_n 2, 1) := fo_28 (fw_get da_cX4_refusalOfBoth_0 3 rfl)
theorem dX4_refusalOfBoth_6 : decode cX4_refusalOfBoth 6 = .ok (.invokevirtual 79, 3) := fo_182 (fw_get da_cX4_refusalOfBoth_0 4 rfl)
theorem dX4_refusalOfBoth_9 : decode cX4_refusalOfBoth 9 = .ok (.ifCond .eq 26, 3) := fo_153 (fw_get da_cX4_refusalOfBoth_0 5 rfl) (by decide +kernel)
theorem dX4_refusalOfBoth_12 : decode cX4_refusalOfBoth 12 = .ok (.aload_n 0, 1) := fo_42 (fw_get da_cX4_refusalOfBoth_0 6 rfl)
theorem dX4_refusalOfBoth_13 : decode cX4_refusalOfBoth 13 = .ok (.getfield 12, 3) := fo_180 (fw_get da_cX4_refusalOfBoth_0 7 rfl)
theorem dX4_refusalOfBoth_16 : decode cX4_refusalOfBoth 16 = .ok (.iload_n 3, 1) := fo_29 (fw_get da_cX4_refusalOfBoth_0 8 rfl)
theorem dX4_refusalOfBoth_17 : decode cX4_refusalOfBoth 17 = .ok (.iload 4, 2) := fo_21 (fw_get da_cX4_refusalOfBoth_0 9 rfl)
theorem dX4_refusalOfBoth_19 : decode cX4_refusalOfBoth 19 = .ok (.invokevirtual 79, 3) := fo_182 (fw_get da_cX4_refusalOfBoth_0 10 rfl)
theorem dX4_refusalOfBoth_22 : decode cX4_refusalOfBoth 22 = .ok (.ifCond .eq 13, 3) := fo_153 (fw_get da_cX4_refusalOfBoth_0 11 rfl) (by decide +kernel)
theorem dX4_refusalOfBoth_25 : decode cX4_refusalOfBoth 25 = .ok (.iload 5, 2) := fo_21 (fw_get da_cX4_refusalOfBoth_0 12 rfl)
theorem dX4_refusalOfBoth_27 : decode cX4_refusalOfBoth 27 = .ok (.iload 6, 2) := fo_21 (fw_get da_cX4_refusalOfBoth_0 13 rfl)
theorem dX4_refusalOfBoth_29 : decode cX4_refusalOfBoth 29 = .ok (.invokestatic 186, 3) := fo_184 (fw_get da_cX4_refusalOfBoth_0 14 rfl)
theorem dX4_refusalOfBoth_32 : decode cX4_refusalOfBoth 32 = .ok (.ifCond .ne 5, 3) := fo_154 (fw_get da_cX4_refusalOfBoth_0 15 rfl) (by decide +kernel)
theorem dX4_refusalOfBoth_35 : decode cX4_refusalOfBoth 35 = .ok (.iconst (-1), 1) := fo_2 (fw_get da_cX4_refusalOfBoth_0 16 rfl)
theorem dX4_refusalOfBoth_36 : decode cX4_refusalOfBoth 36 = .ok (.ireturn, 1) := fo_172 (fw_get da_cX4_refusalOfBoth_0 17 rfl)
theorem dX4_refusalOfBoth_37 : decode cX4_refusalOfBoth 37 = .ok (.aload_n 0, 1) := fo_42 (fw_get da_cX4_refusalOfBoth_0 18 rfl)
theorem dX4_refusalOfBoth_38 : decode cX4_refusalOfBoth 38 = .ok (.iload 5, 2) := fo_21 (fw_get da_cX4_refusalOfBoth_0 19 rfl)
def dt_cX4_refusalOfBoth_1 : List (Nat × Nat × Nat × Nat) := [(40, 21, 1, 6), (42, 182, 2, 189), (45, 154, 2, 6), (48, 16, 1, 254), (50, 172, 0, 0), (51, 27, 0, 0), (52, 21, 1, 4), (54, 162, 2, 13), (57, 29, 0, 0), (58, 28, 0, 0), (59, 162, 2, 8), (62, 16, 1, 253), (64, 167, 2, 4), (67, 3, 0, 0), (68, 172, 0, 0)]
theorem da_cX4_refusalOfBoth_1 : fw dt_cX4_refusalOfBoth_1 0 cX4_refusalOfBoth.data.toList = true := by decide +kernel
theorem dX4_refusalOfBoth_40 : decode cX4_refusalOfBoth 40 = .ok (.iload 6, 2) := fo_21 (fw_get da_cX4_refusalOfBoth_1 0 rfl)
theorem dX4_refusalOfBoth_42 : decode cX4_refusalOfBoth 42 = .ok (.invokevirtual 189, 3) := fo_182 (fw_get da_cX4_refusalOfBoth_1 1 rfl)
theorem dX4_refusalOfBoth_45 : decode cX4_refusalOfBoth 45 = .ok (.ifCond .ne 6, 3) := fo_154 (fw_get da_cX4_refusalOfBoth_1 2 rfl) (by decide +kernel)
theorem dX4_refusalOfBoth_48 : decode cX4_refusalOfBoth 48 = .ok (.bipush (-2), 2) := fo_16 (fw_get da_cX4_refusalOfBoth_1 3 rfl) (by decide +kernel)
theorem dX4_refusalOfBoth_50 : decode cX4_refusalOfBoth 50 = .ok (.ireturn, 1) := fo_172 (fw_get da_cX4_refusalOfBoth_1 4 rfl)
theorem dX4_refusalOfBoth_51 : decode cX4_refusalOfBoth 51 = .ok (.iload_n 1, 1) := fo_27 (fw_get da_cX4_refusalOfBoth_1 5 rfl)
theorem dX4_refusalOfBoth_52 : decode cX4_refusalOfBoth 52 = .ok (.iload 4, 2) := fo_21 (fw_get da_cX4_refusalOfBoth_1 6 rfl)
theorem dX4_refusalOfBoth_54 : decode cX4_refusalOfBoth 54 = .ok (.if_icmp .ge 13, 3) := fo_162 (fw_get da_cX4_refusalOfBoth_1 7 rfl) (by decide +kernel)
theorem dX4_refusalOfBoth_57 : decode cX4_refusalOfBoth 57 = .ok (.iload_n 3, 1) := fo_29 (fw_get da_cX4_refusalOfBoth_1 8 rfl)
theorem dX4_refusalOfBoth_58 : decode cX4_refusalOfBoth 58 = .ok (.iload_n 2, 1) := fo_28 (fw_get da_cX4_refusalOfBoth_1 9 rfl)
theorem dX4_refusalOfBoth_59 : decode cX4_refusalOfBoth 59 = .ok (.if_icmp .ge 8, 3) := fo_162 (fw_get da_cX4_refusalOfBoth_1 10 rfl) (by decide +kernel)
theorem dX4_refusalOfBoth_62 : decode cX4_refusalOfBoth 62 = .ok (.bipush (-3), 2) := fo_16 (fw_get da_cX4_refusalOfBoth_1 11 rfl) (by decide +kernel)
theorem dX4_refusalOfBoth_64 : decode cX4_refusalOfBoth 64 = .ok (.goto 4, 3) := fo_167 (fw_get da_cX4_refusalOfBoth_1 12 rfl) (by decide +kernel)
theorem dX4_refusalOfBoth_67 : decode cX4_refusalOfBoth 67 = .ok (.iconst 0, 1) := fo_3 (fw_get da_cX4_refusalOfBoth_1 13 rfl)
theorem dX4_refusalOfBoth_68 : decode cX4_refusalOfBoth 68 = .ok (.ireturn, 1) := fo_172 (fw_get da_cX4_refusalOfBoth_1 14 rfl)
theorem mi_wsX4_gatherHeavyOfBoth_wsX4_gatherHeavyOfBoth_r1 : ∀ w ∈ wsX4_gatherHeavyOfBoth_r1, w ∈ wsX4_gatherHeavyOfBoth := fun _ h => (List.mem_cons_of_mem _ (List.mem_append_left _ (List.mem_append_left _ (List.mem_append_left _ (List.mem_append_left _ (List.mem_append_left _ h))))))
theorem mi_wsX4_gatherHeavyOfBoth_wsX4_gatherHeavyOfBoth_r2 : ∀ w ∈ wsX4_gatherHeavyOfBoth_r2, w ∈ wsX4_gatherHeavyOfBoth := fun _ h => (List.mem_cons_of_mem _ (List.mem_append_left _ (List.mem_append_left _ (List.mem_append_left _ (List.mem_append_left _ (List.mem_append_right _ (List.mem_append_left _ h)))))))
theorem mi_wsX4_gatherHeavyOfBoth_wsX4_gatherHeavyOfBoth_r3 : ∀ w ∈ wsX4_gatherHeavyOfBoth_r3, w ∈ wsX4_gatherHeavyOfBoth := fun _ h => (List.mem_cons_of_mem _ (List.mem_append_left _ (List.mem_append_left _ (List.mem_append_left _ (List.mem_append_left _ (List.mem_append_right _ (List.mem_append_right _ (List.mem_append_left _ h))))))))
theorem mi_wsX4_gatherHeavyOfBoth_wsX20 : ∀ w ∈ wsX20, w ∈ wsX4_gatherHeavyOfBoth := fun _ h => (List.mem_cons_of_mem _ (List.mem_append_left _ (List.mem_append_right _ h)))
theorem mi_wsX4_gatherHeavyOfBoth_wsX30 : ∀ w ∈ wsX30, w ∈ wsX4_gatherHeavyOfBoth := fun _ h => (List.mem_cons_of_mem _ (List.mem_append_left _ (List.mem_append_left _ (List.mem_append_right _ h))))
set_option maxRecDepth 20000 in
theorem ggX4_gatherHeavyOfBoth_X2_gather : GoodIn wsX4_gatherHeavyOfBoth wsX2_gather := goodIn_k _ [(wsX4_gatherHeavyOfBoth_r1, [18, 19, 20, 21, 22, 23]), (wsX4_gatherHeavyOfBoth_r2, [0, 1, 2, 3, 4, 5, 6, 7, 8]), (wsX4_gatherHeavyOfBoth_r1, [17]), (wsX4_gatherHeavyOfBoth_r2, [9, 10, 11, 12, 13, 14, 15, 16, 17, 18, 19, 20, 21, 22, 23]), (wsX4_gatherHeavyOfBoth_r3, [0, 1, 2, 3, 4, 5, 6, 7, 8, 9, 10, 11, 12, 13, 14, 15, 16, 17]), (wsX20, [0, 1, 2, 3, 4, 5, 6, 7, 8, 9, 10]), (wsX30, [0, 1, 2, 3, 4])] (gk_c mi_wsX4_gatherHeavyOfBoth_wsX4_gatherHeavyOfBoth_r1 (gk_c mi_wsX4_gatherHeavyOfBoth_wsX4_gatherHeavyOfBoth_r2 (gk_c mi_wsX4_gatherHeavyOfBoth_wsX4_gatherHeavyOfBoth_r1 (gk_c mi_wsX4_gatherHeavyOfBoth_wsX4_gatherHeavyOfBoth_r2 (gk_c mi_wsX4_gatherHeavyOfBoth_wsX4_gatherHeavyOfBoth_r3 (gk_c mi_wsX4_gatherHeavyOfBoth_wsX20 (gk_c mi_wsX4_gatherHeavyOfBoth_wsX30 gk_n))))))) rfl (by decide +kernel)
set_option maxRecDepth 20000 in
theorem gX4_gatherHeavyOfBoth_X2_gather : GoodIn wsX4_gatherHeavyOfBoth (wsV RX4 170 RX2 yX2_gather wsX2_gather) := goodIn_app (goodIn_k _ [(wsX4_gatherHeavyOfBoth_r1, [14, 15, 16, 17])] (gk_c mi_wsX4_gatherHeavyOfBoth_wsX4_gatherHeavyOfBoth_r1 gk_n) rfl (by decide +kernel)) ggX4_gatherHeavyOfBoth_X2_gather
set_option maxRecDepth 20000 in
theorem ggX4_gatherHeavyOfBoth_X3_join : GoodIn wsX4_gatherHeavyOfBoth wsX3_join := goodIn_k _ [(wsX4_gatherHeavyOfBoth_r3, [21]), (wsX4_gatherHeavyOfBoth_r2, [3]), (wsX4_gatherHeavyOfBoth_r3, [0, 1]), (wsX4_gatherHeavyOfBoth_r2, [4]), (wsX4_gatherHeavyOfBoth_r3, [22]), (wsX4_gatherHeavyOfBoth_r2, [21, 22, 1, 23]), (wsX30, [0, 1, 2, 3, 4])] (gk_c mi_wsX4_gatherHeavyOfBoth_wsX4_gatherHeavyOfBoth_r3 (gk_c mi_wsX4_gatherHeavyOfBoth_wsX4_gatherHeavyOfBoth_r2 (gk_c mi_wsX4_gatherHeavyOfBoth_wsX4_gatherHeavyOfBoth_r3 (gk_c mi_wsX4_gatherHeavyOfBoth_wsX4_gatherHeavyOfBoth_r2 (gk_c mi_wsX4_gatherHeavyOfBoth_wsX4_gatherHeavyOfBoth_r3 (gk_c mi_wsX4_gatherHeavyOfBoth_wsX4_gatherHeavyOfBoth_r2 (gk_c mi_wsX4_gatherHeavyOfBoth_wsX30 gk_n))))))) rfl (by decide +kernel)
set_option maxRecDepth 20000 in
theorem gX4_gatherHeavyOfBoth_X3_join : GoodIn wsX4_gatherHeavyOfBoth (wsV RX4 266 RX3 yX3_join wsX3_join) := goodIn_app (goodIn_k _ [(wsX4_gatherHeavyOfBoth_r3, [18, 19, 20]), (wsX4_gatherHeavyOfBoth_r2, [1])] (gk_c mi_wsX4_gatherHeavyOfBoth_wsX4_gatherHeavyOfBoth_r3 (gk_c mi_wsX4_gatherHeavyOfBoth_wsX4_gatherHeavyOfBoth_r2 gk_n)) rfl (by decide +kernel)) ggX4_gatherHeavyOfBoth_X3_join
set_option maxRecDepth 20000 in
theorem ggX4_gatherHeavyOfBoth_X3_cancel : GoodIn wsX4_gatherHeavyOfBoth wsX3_cancel := goodIn_k _ [(wsX4_gatherHeavyOfBoth_r3, [5]), (wsX4_gatherHeavyOfBoth_r2, [3]), (wsX4_gatherHeavyOfBoth_r3, [1]), (wsX4_gatherHeavyOfBoth_r2, [5, 4]), (wsX4_gatherHeavyOfBoth_r3, [6, 7, 8]), (wsX4_gatherHeavyOfBoth_r2, [1]), (wsX4_gatherHeavyOfBoth_r3, [9, 10, 11, 12, 13, 0, 14, 15, 16, 17]), (wsX30, [0, 1, 2, 3, 4])] (gk_c mi_wsX4_gatherHeavyOfBoth_wsX4_gatherHeavyOfBoth_r3 (gk_c mi_wsX4_gatherHeavyOfBoth_wsX4_gatherHeavyOfBoth_r2 (gk_c mi_wsX4_gatherHeavyOfBoth_wsX4_gatherHeavyOfBoth_r3 (gk_c mi_wsX4_gatherHeavyOfBoth_wsX4_gatherHeavyOfBoth_r2 (gk_c mi_wsX4_gatherHeavyOfBoth_wsX4_gatherHeavyOfBoth_r3 (gk_c mi_wsX4_gatherHeavyOfBoth_wsX4_gatherHeavyOfBoth_r2 (gk_c mi_wsX4_gatherHeavyOfBoth_wsX4_gatherHeavyOfBoth_r3 (gk_c mi_wsX4_gatherHeavyOfBoth_wsX30 gk_n)))))))) rfl (by decide +kernel)
set_option maxRecDepth 20000 in
theorem gX4_gatherHeavyOfBoth_X3_cancel : GoodIn wsX4_gatherHeavyOfBoth (wsV RX4 270 RX3 yX3_cancel wsX3_cancel) := goodIn_app (goodIn_k _ [(wsX4_gatherHeavyOfBoth_r3, [23, 3, 4]), (wsX4_gatherHeavyOfBoth_r2, [1])] (gk_c mi_wsX4_gatherHeavyOfBoth_wsX4_gatherHeavyOfBoth_r3 (gk_c mi_wsX4_gatherHeavyOfBoth_wsX4_gatherHeavyOfBoth_r2 gk_n)) rfl (by decide +kernel)) ggX4_gatherHeavyOfBoth_X3_cancel
theorem mi_wsX4_gatherHeavyOfBoth_wsX4_gatherHeavyOfBoth_r4 : ∀ w ∈ wsX4_gatherHeavyOfBoth_r4, w ∈ wsX4_gatherHeavyOfBoth := fun _ h => (List.mem_cons_of_mem _ (List.mem_append_left _ (List.mem_append_left _ (List.mem_append_left _ (List.mem_append_left _ (List.mem_append_right _ (List.mem_append_right _ (List.mem_append_right _ h))))))))
theorem mi_wsX4_gatherHeavyOfBoth_wsX00 : ∀ w ∈ wsX00, w ∈ wsX4_gatherHeavyOfBoth := fun _ h => (List.mem_cons_of_mem _ (List.mem_append_right _ h))
set_option maxRecDepth 20000 in
theorem ggX4_gatherHeavyOfBoth_X0_oftenIn : GoodIn wsX4_gatherHeavyOfBoth wsX0_oftenIn := goodIn_k _ [(wsX4_gatherHeavyOfBoth_r4, [4, 5]), (wsX00, [0, 1])] (gk_c mi_wsX4_gatherHeavyOfBoth_wsX4_gatherHeavyOfBoth_r4 (gk_c mi_wsX4_gatherHeavyOfBoth_wsX00 gk_n)) rfl (by decide +kernel)
set_option maxRecDepth 20000 in
theorem gX4_gatherHeavyOfBoth_X0_oftenIn : GoodIn wsX4_gatherHeavyOfBoth (wsV RX4 113 RX0 yX0_oftenIn wsX0_oftenIn) := goodIn_app (goodIn_k _ [(wsX4_gatherHeavyOfBoth_r4, [0, 1, 2, 3])] (gk_c mi_wsX4_gatherHeavyOfBoth_wsX4_gatherHeavyOfBoth_r4 gk_n) rfl (by decide +kernel)) ggX4_gatherHeavyOfBoth_X0_oftenIn
set_option maxRecDepth 20000 in
theorem ggX4_gatherHeavyOfBoth_X3_keepHeavy : GoodIn wsX4_gatherHeavyOfBoth wsX3_keepHeavy := goodIn_k _ [(wsX4_gatherHeavyOfBoth_r4, [9]), (wsX4_gatherHeavyOfBoth_r2, [3]), (wsX4_gatherHeavyOfBoth_r3, [1]), (wsX4_gatherHeavyOfBoth_r4, [10, 11, 12]), (wsX4_gatherHeavyOfBoth_r3, [14, 15, 16]), (wsX4_gatherHeavyOfBoth_r2, [1]), (wsX4_gatherHeavyOfBoth_r3, [17, 0, 6, 7, 8, 9, 10, 11, 12, 13]), (wsX30, [0, 1, 2, 3, 4])] (gk_c mi_wsX4_gatherHeavyOfBoth_wsX4_gatherHeavyOfBoth_r4 (gk_c mi_wsX4_gatherHeavyOfBoth_wsX4_gatherHeavyOfBoth_r2 (gk_c mi_wsX4_gatherHeavyOfBoth_wsX4_gatherHeavyOfBoth_r3 (gk_c mi_wsX4_gatherHeavyOfBoth_wsX4_gatherHeavyOfBoth_r4 (gk_c mi_wsX4_gatherHeavyOfBoth_wsX4_gatherHeavyOfBoth_r3 (gk_c mi_wsX4_gatherHeavyOfBoth_wsX4_gatherHeavyOfBoth_r2 (gk_c mi_wsX4_gatherHeavyOfBoth_wsX4_gatherHeavyOfBoth_r3 (gk_c mi_wsX4_gatherHeavyOfBoth_wsX30 gk_n)))))))) rfl (by decide +kernel)
set_option maxRecDepth 20000 in
theorem gX4_gatherHeavyOfBoth_X3_keepHeavy : GoodIn wsX4_gatherHeavyOfBoth (wsV RX4 262 RX3 yX3_keepHeavy wsX3_keepHeavy) := goodIn_app (goodIn_k _ [(wsX4_gatherHeavyOfBoth_r4, [6, 7, 8]), (wsX4_gatherHeavyOfBoth_r2, [1])] (gk_c mi_wsX4_gatherHeavyOfBoth_wsX4_gatherHeavyOfBoth_r4 (gk_c mi_wsX4_gatherHeavyOfBoth_wsX4_gatherHeavyOfBoth_r2 gk_n)) rfl (by decide +kernel)) ggX4_gatherHeavyOfBoth_X3_keepHeavy
def dt_cX4_gatherHeavyOfBoth_0 : List (Nat × Nat × Nat × Nat) := [(0, 43, 0, 0), (1, 42, 0, 0), (2, 180, 2, 35), (5, 28, 0, 0), (6, 21, 1, 4), (8, 184, 2, 91), (11, 28, 0, 0), (12, 21, 1, 4), (14, 162, 2, 7), (17, 29, 0, 0), (18, 167, 2, 5), (21, 21, 1, 5), (23, 182, 2, 170), (26, 43, 0, 0), (27, 42, 0, 0), (28, 180, 2, 39), (31, 28, 0, 0), (32, 21, 1, 4), (34, 184, 2, 96), (37, 28, 0, 0)]
theorem da_cX4_gatherHeavyOfBoth_0 : fw dt_cX4_gatherHeavyOfBoth_0 0 cX4_gatherHeavyOfBoth.data.toList = true := by decide +kernel
theorem dX4_gatherHeavyOfBoth_0 : decode cX4_gatherHeavyOfBoth 0 = .ok (.aload_n 1, 1) := fo_43 (fw_get da_cX4_gatherHeavyOfBoth_0 0 rfl)
theorem dX4_gatherHeavyOfBoth_1 : decode cX4_gatherHeavyOfBoth 1 = .ok (.aload_n 0, 1) := fo_42 (fw_get da_cX4_gatherHeavyOfBoth_0 1 rfl)
theorem dX4_gatherHeavyOfBoth_2 : decode cX4_gatherHeavyOfBoth 2 = .ok (.getfield 35, 3) := fo_180 (fw_get da_cX4_gatherHeavyOfBoth_0 2 rfl)
theorem dX4_gatherHeavyOfBoth_5 : decode cX4_gatherHeavyOfBoth 5 = .ok (.iload_n 2, 1) := fo_28 (fw_get da_cX4_gatherHeavyOfBoth_0 3 rfl)
theorem dX4_gatherHeavyOfBoth_6 : decode cX4_gatherHeavyOfBoth 6 = .ok (.iload 4, 2) := fo_21 (fw_get da_cX4_gatherHeavyOfBoth_0 4 rfl)
theorem dX4_gatherHeavyOfBoth_8 : decode cX4_gatherHeavyOfBoth 8 = .ok (.invokestatic 91, 3) := fo_184 (fw_get da_cX4_gatherHeavyOfBoth_0 5 rfl)
theorem dX4_gatherHeavyOfBoth_11 : decode cX4_gatherHeavyOfBoth 11 = .ok (.iload_n 2, 1) := fo_28 (fw_get da_cX4_gatherHeavyOfBoth_0 6 rfl)
theorem dX4_gatherHeavyOfBoth_12 : decode cX4_gatherHeavyOfBoth 12 = .ok (.iload 4, 2) := fo_21 (fw_get da_cX4_gatherHeavyOfBoth_0 7 rfl)
theorem dX4_gatherHeavyOfBoth_14 : decode cX4_gatherHeavyOfBoth 14 = .ok (.if_icmp .ge 7, 3) := fo_162 (fw_get da_cX4_gatherHeavyOfBoth_0 8 rfl) (by decide +kernel)
theorem dX4_gatherHeavyOfBoth_17 : decode cX4_gatherHeavyOfBoth 17 = .ok (.iload_n 3, 1) := fo_29 (fw_get da_cX4_gatherHeavyOfBoth_0 9 rfl)
theorem dX4_gatherHeavyOfBoth_18 : decode cX4_gatherHeavyOfBoth 18 = .ok (.goto 5, 3) := fo_167 (fw_get da_cX4_gatherHeavyOfBoth_0 10 rfl) (by decide +kernel)
theorem dX4_gatherHeavyOfBoth_21 : decode cX4_gatherHeavyOfBoth 21 = .ok (.iload 5, 2) := fo_21 (fw_get da_cX4_gatherHeavyOfBoth_0 11 rfl)
theorem dX4_gatherHeavyOfBoth_23 : decode cX4_gatherHeavyOfBoth 23 = .ok (.invokevirtual 170, 3) := fo_182 (fw_get da_cX4_gatherHeavyOfBoth_0 12 rfl)
theorem dX4_gatherHeavyOfBoth_26 : decode cX4_gatherHeavyOfBoth 26 = .ok (.aload_n 1, 1) := fo_43 (fw_get da_cX4_gatherHeavyOfBoth_0 13 rfl)
theorem dX4_gatherHeavyOfBoth_27 : decode cX4_gatherHeavyOfBoth 27 = .ok (.aload_n 0, 1) := fo_42 (fw_get da_cX4_gatherHeavyOfBoth_0 14 rfl)
theorem dX4_gatherHeavyOfBoth_28 : decode cX4_gatherHeavyOfBoth 28 = .ok (.getfield 39, 3) := fo_180 (fw_get da_cX4_gatherHeavyOfBoth_0 15 rfl)
theorem dX4_gatherHeavyOfBoth_31 : decode cX4_gatherHeavyOfBoth 31 = .ok (.iload_n 2, 1) := fo_28 (fw_get da_cX4_gatherHeavyOfBoth_0 16 rfl)
theorem dX4_gatherHeavyOfBoth_32 : decode cX4_gatherHeavyOfBoth 32 = .ok (.iload 4, 2) := fo_21 (fw_get da_cX4_gatherHeavyOfBoth_0 17 rfl)
theorem dX4_gatherHeavyOfBoth_34 : decode cX4_gatherHeavyOfBoth 34 = .ok (.invokestatic 96, 3) := fo_184 (fw_get da_cX4_gatherHeavyOfBoth_0 18 rfl)
theorem dX4_gatherHeavyOfBoth_37 : decode cX4_gatherHeavyOfBoth 37 = .ok (.iload_n 2, 1) := fo_28 (fw_get da_cX4_gatherHeavyOfBoth_0 19 rfl)
def dt_cX4_gatherHeavyOfBoth_1 : List (Nat × Nat × Nat × Nat) := [(38, 21, 1, 4), (40, 162, 2, 8), (43, 21, 1, 5), (45, 167, 2, 4), (48, 29, 0, 0), (49, 182, 2, 170), (52, 42, 0, 0), (53, 180, 2, 35), (56, 42, 0, 0), (57, 180, 2, 39), (60, 182, 2, 266), (63, 42, 0, 0), (64, 180, 2, 35), (67, 42, 0, 0), (68, 180, 2, 49), (71, 182, 2, 270), (74, 3, 0, 0), (75, 54, 1, 8), (77, 21, 1, 8), (79, 42, 0, 0)]
theorem da_cX4_gatherHeavyOfBoth_1 : fw dt_cX4_gatherHeavyOfBoth_1 0 cX4_gatherHeavyOfBoth.data.toList = true := by decide +kernel
theorem dX4_gatherHeavyOfBoth_38 : decode cX4_gatherHeavyOfBoth 38 = .ok (.iload 4, 2) := fo_21 (fw_get da_cX4_gatherHeavyOfBoth_1 0 rfl)
theorem dX4_gatherHeavyOfBoth_40 : decode cX4_gatherHeavyOfBoth 40 = .ok (.if_icmp .ge 8, 3) := fo_162 (fw_get da_cX4_gatherHeavyOfBoth_1 1 rfl) (by decide +kernel)
theorem dX4_gatherHeavyOfBoth_43 : decode cX4_gatherHeavyOfBoth 43 = .ok (.iload 5, 2) := fo_21 (fw_get da_cX4_gatherHeavyOfBoth_1 2 rfl)
theorem dX4_gatherHeavyOfBoth_45 : decode cX4_gatherHeavyOfBoth 45 = .ok (.goto 4, 3) := fo_167 (fw_get da_cX4_gatherHeavyOfBoth_1 3 rfl) (by decide +kernel)
theorem dX4_gatherHeavyOfBoth_48 : decode cX4_gatherHeavyOfBoth 48 = .ok (.iload_n 3, 1) := fo_29 (fw_get da_cX4_gatherHeavyOfBoth_1 4 rfl)
theorem dX4_gatherHeavyOfBoth_49 : decode cX4_gatherHeavyOfBoth 49 = .ok (.invokevirtual 170, 3) := fo_182 (fw_get da_cX4_gatherHeavyOfBoth_1 5 rfl)
theorem dX4_gatherHeavyOfBoth_52 : decode cX4_gatherHeavyOfBoth 52 = .ok (.aload_n 0, 1) := fo_42 (fw_get da_cX4_gatherHeavyOfBoth_1 6 rfl)
theorem dX4_gatherHeavyOfBoth_53 : decode cX4_gatherHeavyOfBoth 53 = .ok (.getfield 35, 3) := fo_180 (fw_get da_cX4_gatherHeavyOfBoth_1 7 rfl)
theorem dX4_gatherHeavyOfBoth_56 : decode cX4_gatherHeavyOfBoth 56 = .ok (.aload_n 0, 1) := fo_42 (fw_get da_cX4_gatherHeavyOfBoth_1 8 rfl)
theorem dX4_gatherHeavyOfBoth_57 : decode cX4_gatherHeavyOfBoth 57 = .ok (.getfield 39, 3) := fo_180 (fw_get da_cX4_gatherHeavyOfBoth_1 9 rfl)
theorem dX4_gatherHeavyOfBoth_60 : decode cX4_gatherHeavyOfBoth 60 = .ok (.invokevirtual 266, 3) := fo_182 (fw_get da_cX4_gatherHeavyOfBoth_1 10 rfl)
theorem dX4_gatherHeavyOfBoth_63 : decode cX4_gatherHeavyOfBoth 63 = .ok (.aload_n 0, 1) := fo_42 (fw_get da_cX4_gatherHeavyOfBoth_1 11 rfl)
theorem dX4_gatherHeavyOfBoth_64 : decode cX4_gatherHeavyOfBoth 64 = .ok (.getfield 35, 3) := fo_180 (fw_get da_cX4_gatherHeavyOfBoth_1 12 rfl)
theorem dX4_gatherHeavyOfBoth_67 : decode cX4_gatherHeavyOfBoth 67 = .ok (.aload_n 0, 1) := fo_42 (fw_get da_cX4_gatherHeavyOfBoth_1 13 rfl)
theorem dX4_gatherHeavyOfBoth_68 : decode cX4_gatherHeavyOfBoth 68 = .ok (.getfield 49, 3) := fo_180 (fw_get da_cX4_gatherHeavyOfBoth_1 14 rfl)
theorem dX4_gatherHeavyOfBoth_71 : decode cX4_gatherHeavyOfBoth 71 = .ok (.invokevirtual 270, 3) := fo_182 (fw_get da_cX4_gatherHeavyOfBoth_1 15 rfl)
theorem dX4_gatherHeavyOfBoth_74 : decode cX4_gatherHeavyOfBoth 74 = .ok (.iconst 0, 1) := fo_3 (fw_get da_cX4_gatherHeavyOfBoth_1 16 rfl)
theorem dX4_gatherHeavyOfBoth_75 : decode cX4_gatherHeavyOfBoth 75 = .ok (.istore 8, 2) := fo_54 (fw_get da_cX4_gatherHeavyOfBoth_1 17 rfl)
theorem dX4_gatherHeavyOfBoth_77 : decode cX4_gatherHeavyOfBoth 77 = .ok (.iload 8, 2) := fo_21 (fw_get da_cX4_gatherHeavyOfBoth_1 18 rfl)
theorem dX4_gatherHeavyOfBoth_79 : decode cX4_gatherHeavyOfBoth 79 = .ok (.aload_n 0, 1) := fo_42 (fw_get da_cX4_gatherHeavyOfBoth_1 19 rfl)
def dt_cX4_gatherHeavyOfBoth_2 : List (Nat × Nat × Nat × Nat) := [(80, 180, 2, 35), (83, 180, 2, 174), (86, 162, 2, 56), (89, 42, 0, 0), (90, 180, 2, 35), (93, 180, 2, 133), (96, 21, 1, 8), (98, 46, 0, 0), (99, 54, 1, 9), (101, 42, 0, 0), (102, 180, 2, 35), (105, 180, 2, 136), (108, 21, 1, 8), (110, 42, 0, 0), (111, 180, 2, 12), (114, 21, 1, 9), (116, 28, 0, 0), (117, 29, 0, 0), (118, 182, 2, 113), (121, 42, 0, 0)]
theorem da_cX4_gatherHeavyOfBoth_2 : fw dt_cX4_gatherHeavyOfBoth_2 0 cX4_gatherHeavyOfBoth.data.toList = true := by decide +kernel
theorem dX4_gatherHeavyOfBoth_80 : decode cX4_gatherHeavyOfBoth 80 = .ok (.getfield 35, 3) := fo_180 (fw_get da_cX4_gatherHeavyOfBoth_2 0 rfl)
theorem dX4_gatherHeavyOfBoth_83 : decode cX4_gatherHeavyOfBoth 83 = .ok (.getfield 174, 3) := fo_180 (fw_get da_cX4_gatherHeavyOfBoth_2 1 rfl)
theorem dX4_gatherHeavyOfBoth_86 : decode cX4_gatherHeavyOfBoth 86 = .ok (.if_icmp .ge 56, 3) := fo_162 (fw_get da_cX4_gatherHeavyOfBoth_2 2 rfl) (by decide +kernel)
theorem dX4_gatherHeavyOfBoth_89 : decode cX4_gatherHeavyOfBoth 89 = .ok (.aload_n 0, 1) := fo_42 (fw_get da_cX4_gatherHeavyOfBoth_2 3 rfl)
theorem dX4_gatherHeavyOfBoth_90 : decode cX4_gatherHeavyOfBoth 90 = .ok (.getfield 35, 3) := fo_180 (fw_get da_cX4_gatherHeavyOfBoth_2 4 rfl)
theorem dX4_gatherHeavyOfBoth_93 : decode cX4_gatherHeavyOfBoth 93 = .ok (.getfield 133, 3) := fo_180 (fw_get da_cX4_gatherHeavyOfBoth_2 5 rfl)
theorem dX4_gatherHeavyOfBoth_96 : decode cX4_gatherHeavyOfBoth 96 = .ok (.iload 8, 2) := fo_21 (fw_get da_cX4_gatherHeavyOfBoth_2 6 rfl)
theorem dX4_gatherHeavyOfBoth_98 : decode cX4_gatherHeavyOfBoth 98 = .ok (.iaload, 1) := fo_46 (fw_get da_cX4_gatherHeavyOfBoth_2 7 rfl)
theorem dX4_gatherHeavyOfBoth_99 : decode cX4_gatherHeavyOfBoth 99 = .ok (.istore 9, 2) := fo_54 (fw_get da_cX4_gatherHeavyOfBoth_2 8 rfl)
theorem dX4_gatherHeavyOfBoth_101 : decode cX4_gatherHeavyOfBoth 101 = .ok (.aload_n 0, 1) := fo_42 (fw_get da_cX4_gatherHeavyOfBoth_2 9 rfl)
theorem dX4_gatherHeavyOfBoth_102 : decode cX4_gatherHeavyOfBoth 102 = .ok (.getfield 35, 3) := fo_180 (fw_get da_cX4_gatherHeavyOfBoth_2 10 rfl)
theorem dX4_gatherHeavyOfBoth_105 : decode cX4_gatherHeavyOfBoth 105 = .ok (.getfield 136, 3) := fo_180 (fw_get da_cX4_gatherHeavyOfBoth_2 11 rfl)
theorem dX4_gatherHeavyOfBoth_108 : decode cX4_gatherHeavyOfBoth 108 = .ok (.iload 8, 2) := fo_21 (fw_get da_cX4_gatherHeavyOfBoth_2 12 rfl)
theorem dX4_gatherHeavyOfBoth_110 : decode cX4_gatherHeavyOfBoth 110 = .ok (.aload_n 0, 1) := fo_42 (fw_get da_cX4_gatherHeavyOfBoth_2 13 rfl)
theorem dX4_gatherHeavyOfBoth_111 : decode cX4_gatherHeavyOfBoth 111 = .ok (.getfield 12, 3) := fo_180 (fw_get da_cX4_gatherHeavyOfBoth_2 14 rfl)
theorem dX4_gatherHeavyOfBoth_114 : decode cX4_gatherHeavyOfBoth 114 = .ok (.iload 9, 2) := fo_21 (fw_get da_cX4_gatherHeavyOfBoth_2 15 rfl)
theorem dX4_gatherHeavyOfBoth_116 : decode cX4_gatherHeavyOfBoth 116 = .ok (.iload_n 2, 1) := fo_28 (fw_get da_cX4_gatherHeavyOfBoth_2 16 rfl)
theorem dX4_gatherHeavyOfBoth_117 : decode cX4_gatherHeavyOfBoth 117 = .ok (.iload_n 3, 1) := fo_29 (fw_get da_cX4_gatherHeavyOfBoth_2 17 rfl)
theorem dX4_gatherHeavyOfBoth_118 : decode cX4_gatherHeavyOfBoth 118 = .ok (.invokevirtual 113, 3) := fo_182 (fw_get da_cX4_gatherHeavyOfBoth_2 18 rfl)
theorem dX4_gatherHeavyOfBoth_121 : decode cX4_gatherHeavyOfBoth 121 = .ok (.aload_n 0, 1) := fo_42 (fw_get da_cX4_gatherHeavyOfBoth_2 19 rfl)
def dt_cX4_gatherHeavyOfBoth_3 : List (Nat × Nat × Nat × Nat) := [(122, 180, 2, 12), (125, 21, 1, 9), (127, 21, 1, 4), (129, 21, 1, 5), (131, 182, 2, 113), (134, 96, 0, 0), (135, 79, 0, 0), (136, 132, 2, 2049), (139, 167, 2, 65474), (142, 42, 0, 0), (143, 180, 2, 35), (146, 29, 0, 0), (147, 28, 0, 0), (148, 100, 0, 0), (149, 21, 1, 5), (151, 96, 0, 0), (152, 21, 1, 4), (154, 100, 0, 0), (155, 21, 1, 6), (157, 21, 1, 7)]
theorem da_cX4_gatherHeavyOfBoth_3 : fw dt_cX4_gatherHeavyOfBoth_3 0 cX4_gatherHeavyOfBoth.data.toList = true := by decide +kernel
theorem dX4_gatherHeavyOfBoth_122 : decode cX4_gatherHeavyOfBoth 122 = .ok (.getfield 12, 3) := fo_180 (fw_get da_cX4_gatherHeavyOfBoth_3 0 rfl)
theorem dX4_gatherHeavyOfBoth_125 : decode cX4_gatherHeavyOfBoth 125 = .ok (.iload 9, 2) := fo_21 (fw_get da_cX4_gatherHeavyOfBoth_3 1 rfl)
theorem dX4_gatherHeavyOfBoth_127 : decode cX4_gatherHeavyOfBoth 127 = .ok (.iload 4, 2) := fo_21 (fw_get da_cX4_gatherHeavyOfBoth_3 2 rfl)
theorem dX4_gatherHeavyOfBoth_129 : decode cX4_gatherHeavyOfBoth 129 = .ok (.iload 5, 2) := fo_21 (fw_get da_cX4_gatherHeavyOfBoth_3 3 rfl)
theorem dX4_gatherHeavyOfBoth_131 : decode cX4_gatherHeavyOfBoth 131 = .ok (.invokevirtual 113, 3) := fo_182 (fw_get da_cX4_gatherHeavyOfBoth_3 4 rfl)
theorem dX4_gatherHeavyOfBoth_134 : decode cX4_gatherHeavyOfBoth 134 = .ok (.iadd, 1) := fo_96 (fw_get da_cX4_gatherHeavyOfBoth_3 5 rfl)
theorem dX4_gatherHeavyOfBoth_135 : decode cX4_gatherHeavyOfBoth 135 = .ok (.iastore, 1) := fo_79 (fw_get da_cX4_gatherHeavyOfBoth_3 6 rfl)
theorem dX4_gatherHeavyOfBoth_136 : decode cX4_gatherHeavyOfBoth 136 = .ok (.iinc 8 1, 3) := fo_132 (fw_get da_cX4_gatherHeavyOfBoth_3 7 rfl) rfl (by decide +kernel)
theorem dX4_gatherHeavyOfBoth_139 : decode cX4_gatherHeavyOfBoth 139 = .ok (.goto (-62), 3) := fo_167 (fw_get da_cX4_gatherHeavyOfBoth_3 8 rfl) (by decide +kernel)
theorem dX4_gatherHeavyOfBoth_142 : decode cX4_gatherHeavyOfBoth 142 = .ok (.aload_n 0, 1) := fo_42 (fw_get da_cX4_gatherHeavyOfBoth_3 9 rfl)
theorem dX4_gatherHeavyOfBoth_143 : decode cX4_gatherHeavyOfBoth 143 = .ok (.getfield 35, 3) := fo_180 (fw_get da_cX4_gatherHeavyOfBoth_3 10 rfl)
theorem dX4_gatherHeavyOfBoth_146 : decode cX4_gatherHeavyOfBoth 146 = .ok (.iload_n 3, 1) := fo_29 (fw_get da_cX4_gatherHeavyOfBoth_3 11 rfl)
theorem dX4_gatherHeavyOfBoth_147 : decode cX4_gatherHeavyOfBoth 147 = .ok (.iload_n 2, 1) := fo_28 (fw_get da_cX4_gatherHeavyOfBoth_3 12 rfl)
theorem dX4_gatherHeavyOfBoth_148 : decode cX4_gatherHeavyOfBoth 148 = .ok (.isub, 1) := fo_100 (fw_get da_cX4_gatherHeavyOfBoth_3 13 rfl)
theorem dX4_gatherHeavyOfBoth_149 : decode cX4_gatherHeavyOfBoth 149 = .ok (.iload 5, 2) := fo_21 (fw_get da_cX4_gatherHeavyOfBoth_3 14 rfl)
theorem dX4_gatherHeavyOfBoth_151 : decode cX4_gatherHeavyOfBoth 151 = .ok (.iadd, 1) := fo_96 (fw_get da_cX4_gatherHeavyOfBoth_3 15 rfl)
theorem dX4_gatherHeavyOfBoth_152 : decode cX4_gatherHeavyOfBoth 152 = .ok (.iload 4, 2) := fo_21 (fw_get da_cX4_gatherHeavyOfBoth_3 16 rfl)
theorem dX4_gatherHeavyOfBoth_154 : decode cX4_gatherHeavyOfBoth 154 = .ok (.isub, 1) := fo_100 (fw_get da_cX4_gatherHeavyOfBoth_3 17 rfl)
theorem dX4_gatherHeavyOfBoth_155 : decode cX4_gatherHeavyOfBoth 155 = .ok (.iload 6, 2) := fo_21 (fw_get da_cX4_gatherHeavyOfBoth_3 18 rfl)
theorem dX4_gatherHeavyOfBoth_157 : decode cX4_gatherHeavyOfBoth 157 = .ok (.iload 7, 2) := fo_21 (fw_get da_cX4_gatherHeavyOfBoth_3 19 rfl)
def dt_cX4_gatherHeavyOfBoth_4 : List (Nat × Nat × Nat × Nat) := [(159, 182, 2, 262), (162, 177, 0, 0)]
theorem da_cX4_gatherHeavyOfBoth_4 : fw dt_cX4_gatherHeavyOfBoth_4 0 cX4_gatherHeavyOfBoth.data.toList = true := by decide +kernel
theorem dX4_gatherHeavyOfBoth_159 : decode cX4_gatherHeavyOfBoth 159 = .ok (.invokevirtual 262, 3) := fo_182 (fw_get da_cX4_gatherHeavyOfBoth_4 0 rfl)
theorem dX4_gatherHeavyOfBoth_162 : decode cX4_gatherHeavyOfBoth 162 = .ok (.return_, 1) := fo_177 (fw_get da_cX4_gatherHeavyOfBoth_4 1 rfl)
set_option maxRecDepth 20000 in
theorem ggX4_heavyValues_X0_oftenIn : GoodIn wsX4_heavyValues wsX0_oftenIn := goodIn_r _ [7, 8, 22, 23] rfl (by decide +kernel)
set_option maxRecDepth 20000 in
theorem gX4_heavyValues_X0_oftenIn : GoodIn wsX4_heavyValues (wsV RX4 113 RX0 yX0_oftenIn wsX0_oftenIn) := goodIn_app (goodIn_r _ [3, 4, 5, 6] rfl (by decide +kernel)) ggX4_heavyValues_X0_oftenIn
set_option maxRecDepth 20000 in
theorem ggX4_heavyValues_X4_isHeavy : GoodIn wsX4_heavyValues wsX4_isHeavy := goodIn_r _ [12] rfl (by decide +kernel)
set_option maxRecDepth 20000 in
theorem gX4_heavyValues_X4_isHeavy : GoodIn wsX4_heavyValues (va_wsS RX4 273 yX4_isHeavy wsX4_isHeavy) := goodIn_app (goodIn_r _ [9, 10, 11] rfl (by decide +kernel)) ggX4_heavyValues_X4_isHeavy
def dt_cX4_heavyValues_0 : List (Nat × Nat × Nat × Nat) := [(0, 3, 0, 0), (1, 54, 1, 5), (3, 27, 0, 0), (4, 54, 1, 6), (6, 21, 1, 6), (8, 28, 0, 0), (9, 162, 2, 63), (12, 42, 0, 0), (13, 180, 2, 12), (16, 180, 2, 110), (19, 21, 1, 6), (21, 46, 0, 0), (22, 54, 1, 7), (24, 42, 0, 0), (25, 180, 2, 12), (28, 21, 1, 7), (30, 27, 0, 0), (31, 21, 1, 6), (33, 182, 2, 113), (36, 154, 2, 30)]
theorem da_cX4_heavyValues_0 : fw dt_cX4_heavyValues_0 0 cX4_heavyValues.data.toList = true := by decide +kernel
theorem dX4_heavyValues_0 : decode cX4_heavyValues 0 = .ok (.iconst 0, 1) := fo_3 (fw_get da_cX4_heavyValues_0 0 rfl)
theorem dX4_heavyValues_1 : decode cX4_heavyValues 1 = .ok (.istore 5, 2) := fo_54 (fw_get da_cX4_heavyValues_0 1 rfl)
theorem dX4_heavyValues_3 : decode cX4_heavyValues 3 = .ok (.iload_n 1, 1) := fo_27 (fw_get da_cX4_heavyValues_0 2 rfl)
theorem dX4_heavyValues_4 : decode cX4_heavyValues 4 = .ok (.istore 6, 2) := fo_54 (fw_get da_cX4_heavyValues_0 3 rfl)
theorem dX4_heavyValues_6 : decode cX4_heavyValues 6 = .ok (.iload 6, 2) := fo_21 (fw_get da_cX4_heavyValues_0 4 rfl)
theorem dX4_heavyValues_8 : decode cX4_heavyValues 8 = .ok (.iload_n 2, 1) := fo_28 (fw_get da_cX4_heavyValues_0 5 rfl)
theorem dX4_heavyValues_9 : decode cX4_heavyValues 9 = .ok (.if_icmp .ge 63, 3) := fo_162 (fw_get da_cX4_heavyValues_0 6 rfl) (by decide +kernel)
theorem dX4_heavyValues_12 : decode cX4_heavyValues 12 = .ok (.aload_n 0, 1) := fo_42 (fw_get da_cX4_heavyValues_0 7 rfl)
theorem dX4_heavyValues_13 : decode cX4_heavyValues 13 = .ok (.getfield 12, 3) := fo_180 (fw_get da_cX4_heavyValues_0 8 rfl)
theorem dX4_heavyValues_16 : decode cX4_heavyValues 16 = .ok (.getfield 110, 3) := fo_180 (fw_get da_cX4_heavyValues_0 9 rfl)
theorem dX4_heavyValues_19 : decode cX4_heavyValues 19 = .ok (.iload 6, 2) := fo_21 (fw_get da_cX4_heavyValues_0 10 rfl)
theorem dX4_heavyValues_21 : decode cX4_heavyValues 21 = .ok (.iaload, 1) := fo_46 (fw_get da_cX4_heavyValues_0 11 rfl)
theorem dX4_heavyValues_22 : decode cX4_heavyValues 22 = .ok (.istore 7, 2) := fo_54 (fw_get da_cX4_heavyValues_0 12 rfl)
theorem dX4_heavyValues_24 : decode cX4_heavyValues 24 = .ok (.aload_n 0, 1) := fo_42 (fw_get da_cX4_heavyValues_0 13 rfl)
theorem dX4_heavyValues_25 : decode cX4_heavyValues 25 = .ok (.getfield 12, 3) := fo_180 (fw_get da_cX4_heavyValues_0 14 rfl)
theorem dX4_heavyValues_28 : decode cX4_heavyValues 28 = .ok (.iload 7, 2) := fo_21 (fw_get da_cX4_heavyValues_0 15 rfl)
theorem dX4_heavyValues_30 : decode cX4_heavyValues 30 = .ok (.iload_n 1, 1) := fo_27 (fw_get da_cX4_heavyValues_0 16 rfl)
theorem dX4_heavyValues_31 : decode cX4_heavyValues 31 = .ok (.iload 6, 2) := fo_21 (fw_get da_cX4_heavyValues_0 17 rfl)
theorem dX4_heavyValues_33 : decode cX4_heavyValues 33 = .ok (.invokevirtual 113, 3) := fo_182 (fw_get da_cX4_heavyValues_0 18 rfl)
theorem dX4_heavyValues_36 : decode cX4_heavyValues 36 = .ok (.ifCond .ne 30, 3) := fo_154 (fw_get da_cX4_heavyValues_0 19 rfl) (by decide +kernel)
def dt_cX4_heavyValues_1 : List (Nat × Nat × Nat × Nat) := [(39, 42, 0, 0), (40, 180, 2, 12), (43, 21, 1, 7), (45, 21, 1, 6), (47, 28, 0, 0), (48, 182, 2, 113), (51, 28, 0, 0), (52, 27, 0, 0), (53, 100, 0, 0), (54, 29, 0, 0), (55, 21, 1, 4), (57, 184, 2, 273), (60, 153, 2, 6), (63, 132, 2, 1281), (66, 132, 2, 1537), (69, 167, 2, 65473), (72, 21, 1, 5), (74, 172, 0, 0)]
theorem da_cX4_heavyValues_1 : fw dt_cX4_heavyValues_1 0 cX4_heavyValues.data.toList = true := by decide +kernel
theorem dX4_heavyValues_39 : decode cX4_heavyValues 39 = .ok (.aload_n 0, 1) := fo_42 (fw_get da_cX4_heavyValues_1 0 rfl)
theorem dX4_heavyValues_40 : decode cX4_heavyValues 40 = .ok (.getfield 12, 3) := fo_180 (fw_get da_cX4_heavyValues_1 1 rfl)
theorem dX4_heavyValues_43 : decode cX4_heavyValues 43 = .ok (.iload 7, 2) := fo_21 (fw_get da_cX4_heavyValues_1 2 rfl)
theorem dX4_heavyValues_45 : decode cX4_heavyValues 45 = .ok (.iload 6, 2) := fo_21 (fw_get da_cX4_heavyValues_1 3 rfl)
theorem dX4_heavyValues_47 : decode cX4_heavyValues 47 = .ok (.iload_n 2, 1) := fo_28 (fw_get da_cX4_heavyValues_1 4 rfl)
theorem dX4_heavyValues_48 : decode cX4_heavyValues 48 = .ok (.invokevirtual 113, 3) := fo_182 (fw_get da_cX4_heavyValues_1 5 rfl)
theorem dX4_heavyValues_51 : decode cX4_heavyValues 51 = .ok (.iload_n 2, 1) := fo_28 (fw_get da_cX4_heavyValues_1 6 rfl)
theorem dX4_heavyValues_52 : decode cX4_heavyValues 52 = .ok (.iload_n 1, 1) := fo_27 (fw_get da_cX4_heavyValues_1 7 rfl)
theorem dX4_heavyValues_53 : decode cX4_heavyValues 53 = .ok (.isub, 1) := fo_100 (fw_get da_cX4_heavyValues_1 8 rfl)
theorem dX4_heavyValues_54 : decode cX4_heavyValues 54 = .ok (.iload_n 3, 1) := fo_29 (fw_get da_cX4_heavyValues_1 9 rfl)
theorem dX4_heavyValues_55 : decode cX4_heavyValues 55 = .ok (.iload 4, 2) := fo_21 (fw_get da_cX4_heavyValues_1 10 rfl)
theorem dX4_heavyValues_57 : decode cX4_heavyValues 57 = .ok (.invokestatic 273, 3) := fo_184 (fw_get da_cX4_heavyValues_1 11 rfl)
theorem dX4_heavyValues_60 : decode cX4_heavyValues 60 = .ok (.ifCond .eq 6, 3) := fo_153 (fw_get da_cX4_heavyValues_1 12 rfl) (by decide +kernel)
theorem dX4_heavyValues_63 : decode cX4_heavyValues 63 = .ok (.iinc 5 1, 3) := fo_132 (fw_get da_cX4_heavyValues_1 13 rfl) rfl (by decide +kernel)
theorem dX4_heavyValues_66 : decode cX4_heavyValues 66 = .ok (.iinc 6 1, 3) := fo_132 (fw_get da_cX4_heavyValues_1 14 rfl) rfl (by decide +kernel)
theorem dX4_heavyValues_69 : decode cX4_heavyValues 69 = .ok (.goto (-63), 3) := fo_167 (fw_get da_cX4_heavyValues_1 15 rfl) (by decide +kernel)
theorem dX4_heavyValues_72 : decode cX4_heavyValues 72 = .ok (.iload 5, 2) := fo_21 (fw_get da_cX4_heavyValues_1 16 rfl)
theorem dX4_heavyValues_74 : decode cX4_heavyValues 74 = .ok (.ireturn, 1) := fo_172 (fw_get da_cX4_heavyValues_1 17 rfl)
theorem mi_wsX4_heavyVotesBy_wsX4_heavyVotesBy_r1 : ∀ w ∈ wsX4_heavyVotesBy_r1, w ∈ wsX4_heavyVotesBy := fun _ h => (List.mem_cons_of_mem _ (List.mem_append_left _ (List.mem_append_left _ (List.mem_append_left _ (List.mem_append_left _ (List.mem_append_left _ h))))))
theorem mi_wsX4_heavyVotesBy_wsX4_heavyVotesBy_r2 : ∀ w ∈ wsX4_heavyVotesBy_r2, w ∈ wsX4_heavyVotesBy := fun _ h => (List.mem_cons_of_mem _ (List.mem_append_left _ (List.mem_append_left _ (List.mem_append_left _ (List.mem_append_left _ (List.mem_append_right _ (List.mem_append_left _ h)))))))
theorem mi_wsX4_heavyVotesBy_wsX4_heavyVotesBy_r3 : ∀ w ∈ wsX4_heavyVotesBy_r3, w ∈ wsX4_heavyVotesBy := fun _ h => (List.mem_cons_of_mem _ (List.mem_append_left _ (List.mem_append_left _ (List.mem_append_left _ (List.mem_append_left _ (List.mem_append_right _ (List.mem_append_right _ (List.mem_append_left _ h))))))))
theorem mi_wsX4_heavyVotesBy_wsX4_heavyVotesBy_r4 : ∀ w ∈ wsX4_heavyVotesBy_r4, w ∈ wsX4_heavyVotesBy := fun _ h => (List.mem_cons_of_mem _ (List.mem_append_left _ (List.mem_append_left _ (List.mem_append_left _ (List.mem_append_left _ (List.mem_append_right _ (List.mem_append_right _ (List.mem_append_right _ (List.mem_append_left _ h)))))))))
theorem mi_wsX4_heavyVotesBy_wsX20 : ∀ w ∈ wsX20, w ∈ wsX4_heavyVotesBy := fun _ h => (List.mem_cons_of_mem _ (List.mem_append_left _ (List.mem_append_left _ (List.mem_append_left _ (List.mem_append_right _ h)))))
theorem mi_wsX4_heavyVotesBy_wsX00 : ∀ w ∈ wsX00, w ∈ wsX4_heavyVotesBy := fun _ h => (List.mem_cons_of_mem _ (List.mem_append_right _ h))
theorem mi_wsX4_heavyVotesBy_wsX30 : ∀ w ∈ wsX30, w ∈ wsX4_heavyVotesBy := fun _ h => (List.mem_cons_of_mem _ (List.mem_append_left _ (List.mem_append_right _ h)))
set_option maxRecDepth 20000 in
theorem ggX4_heavyVotesBy_X2_renew : GoodIn wsX4_heavyVotesBy wsX2_renew := goodIn_k _ [(wsX4_heavyVotesBy_r1, [9, 10, 11, 12, 13, 14, 15, 8, 16, 17, 18, 19, 20, 21, 22, 23]), (wsX4_heavyVotesBy_r2, [0, 1, 2, 3, 4, 5, 6, 7, 8, 9, 10, 11, 12, 13, 14, 15, 16, 17, 18, 19, 20, 21, 22, 23]), (wsX4_heavyVotesBy_r3, [0, 1, 2, 3, 4, 5, 6, 7, 8, 9, 10, 11, 12, 13, 14, 15, 16, 17, 18, 19, 20, 21, 22, 23]), (wsX4_heavyVotesBy_r4, [0, 1, 2, 3, 4, 5, 6, 7, 8]), (wsX20, [0, 1, 2, 3, 4, 5, 6, 7, 8, 9, 10]), (wsX00, [0, 1]), (wsX30, [0, 1, 2, 3, 4])] (gk_c mi_wsX4_heavyVotesBy_wsX4_heavyVotesBy_r1 (gk_c mi_wsX4_heavyVotesBy_wsX4_heavyVotesBy_r2 (gk_c mi_wsX4_heavyVotesBy_wsX4_heavyVotesBy_r3 (gk_c mi_wsX4_heavyVotesBy_wsX4_heavyVotesBy_r4 (gk_c mi_wsX4_heavyVotesBy_wsX20 (gk_c mi_wsX4_heavyVotesBy_wsX00 (gk_c mi_wsX4_heavyVotesBy_wsX30 gk_n))))))) rfl (by decide +kernel)
set_option maxRecDepth 20000 in
theorem gX4_heavyVotesBy_X2_renew : GoodIn wsX4_heavyVotesBy (wsV RX4 87 RX2 yX2_renew wsX2_renew) := goodIn_app (goodIn_k _ [(wsX4_heavyVotesBy_r1, [5, 6, 7, 8])] (gk_c mi_wsX4_heavyVotesBy_wsX4_heavyVotesBy_r1 gk_n) rfl (by decide +kernel)) ggX4_heavyVotesBy_X2_renew
set_option maxRecDepth 20000 in
theorem ggX4_heavyVotesBy_X2_gather : GoodIn wsX4_heavyVotesBy wsX2_gather := goodIn_k _ [(wsX4_heavyVotesBy_r4, [12]), (wsX4_heavyVotesBy_r1, [10, 12, 20, 21, 22, 23]), (wsX4_heavyVotesBy_r2, [0, 1, 2, 3, 4]), (wsX4_heavyVotesBy_r4, [13, 14, 15]), (wsX4_heavyVotesBy_r1, [8]), (wsX4_heavyVotesBy_r4, [16]), (wsX4_heavyVotesBy_r1, [11]), (wsX4_heavyVotesBy_r2, [11, 12, 13, 14, 15, 16, 17, 18, 19, 5, 6, 7, 8, 9, 10]), (wsX4_heavyVotesBy_r3, [0, 1, 2, 3, 4, 5, 6, 7, 8, 9, 10, 11, 12, 13, 14, 15]), (wsX20, [0, 1, 2, 3, 4, 5, 6, 7, 8, 9, 10]), (wsX30, [0, 1, 2, 3, 4])] (gk_c mi_wsX4_heavyVotesBy_wsX4_heavyVotesBy_r4 (gk_c mi_wsX4_heavyVotesBy_wsX4_heavyVotesBy_r1 (gk_c mi_wsX4_heavyVotesBy_wsX4_heavyVotesBy_r2 (gk_c mi_wsX4_heavyVotesBy_wsX4_heavyVotesBy_r4 (gk_c mi_wsX4_heavyVotesBy_wsX4_heavyVotesBy_r1 (gk_c mi_wsX4_heavyVotesBy_wsX4_heavyVotesBy_r4 (gk_c mi_wsX4_heavyVotesBy_wsX4_heavyVotesBy_r1 (gk_c mi_wsX4_heavyVotesBy_wsX4_heavyVotesBy_r2 (gk_c mi_wsX4_heavyVotesBy_wsX4_heavyVotesBy_r3 (gk_c mi_wsX4_heavyVotesBy_wsX20 (gk_c mi_wsX4_heavyVotesBy_wsX30 gk_n))))))))))) rfl (by decide +kernel)
set_option maxRecDepth 20000 in
theorem gX4_heavyVotesBy_X2_gather : GoodIn wsX4_heavyVotesBy (wsV RX4 170 RX2 yX2_gather wsX2_gather) := goodIn_app (goodIn_k _ [(wsX4_heavyVotesBy_r4, [9, 10, 11]), (wsX4_heavyVotesBy_r1, [8])] (gk_c mi_wsX4_heavyVotesBy_wsX4_heavyVotesBy_r4 (gk_c mi_wsX4_heavyVotesBy_wsX4_heavyVotesBy_r1 gk_n)) rfl (by decide +kernel)) ggX4_heavyVotesBy_X2_gather
set_option maxRecDepth 20000 in
theorem ggX4_heavyVotesBy_X0_oftenIn : GoodIn wsX4_heavyVotesBy wsX0_oftenIn := goodIn_k _ [(wsX4_heavyVotesBy_r4, [21, 22]), (wsX00, [0, 1])] (gk_c mi_wsX4_heavyVotesBy_wsX4_heavyVotesBy_r4 (gk_c mi_wsX4_heavyVotesBy_wsX00 gk_n)) rfl (by decide +kernel)
set_option maxRecDepth 20000 in
theorem gX4_heavyVotesBy_X0_oftenIn : GoodIn wsX4_heavyVotesBy (wsV RX4 113 RX0 yX0_oftenIn wsX0_oftenIn) := goodIn_app (goodIn_k _ [(wsX4_heavyVotesBy_r4, [17, 18, 19, 20])] (gk_c mi_wsX4_heavyVotesBy_wsX4_heavyVotesBy_r4 gk_n) rfl (by decide +kernel)) ggX4_heavyVotesBy_X0_oftenIn
theorem mi_wsX4_heavyVotesBy_wsX4_heavyVotesBy_r5 : ∀ w ∈ wsX4_heavyVotesBy_r5, w ∈ wsX4_heavyVotesBy := fun _ h => (List.mem_cons_of_mem _ (List.mem_append_left _ (List.mem_append_left _ (List.mem_append_left _ (List.mem_append_left _ (List.mem_append_right _ (List.mem_append_right _ (List.mem_append_right _ (List.mem_append_right _ h)))))))))
set_option maxRecDepth 20000 in
theorem ggX4_heavyVotesBy_X4_isHeavy : GoodIn wsX4_heavyVotesBy wsX4_isHeavy := goodIn_k _ [(wsX4_heavyVotesBy_r5, [2])] (gk_c mi_wsX4_heavyVotesBy_wsX4_heavyVotesBy_r5 gk_n) rfl (by decide +kernel)
set_option maxRecDepth 20000 in
theorem gX4_heavyVotesBy_X4_isHeavy : GoodIn wsX4_heavyVotesBy (va_wsS RX4 273 yX4_isHeavy wsX4_isHeavy) := goodIn_app (goodIn_k _ [(wsX4_heavyVotesBy_r4, [23]), (wsX4_heavyVotesBy_r5, [0, 1])] (gk_c mi_wsX4_heavyVotesBy_wsX4_heavyVotesBy_r4 (gk_c mi_wsX4_heavyVotesBy_wsX4_heavyVotesBy_r5 gk_n)) rfl (by decide +kernel)) ggX4_heavyVotesBy_X4_isHeavy
def dt_cX4_heavyVotesBy_0 : List (Nat × Nat × Nat × Nat) := [(0, 43, 0, 0), (1, 28, 0, 0), (2, 181, 2, 204), (5, 43, 0, 0), (6, 29, 0, 0), (7, 21, 1, 4), (9, 182, 2, 87), (12, 87, 0, 0), (13, 43, 0, 0), (14, 42, 0, 0), (15, 180, 2, 35), (18, 29, 0, 0), (19, 21, 1, 4), (21, 182, 2, 170), (24, 3, 0, 0), (25, 54, 1, 7), (27, 3, 0, 0), (28, 54, 1, 8), (30, 21, 1, 8), (32, 42, 0, 0)]
theorem da_cX4_heavyVotesBy_0 : fw dt_cX4_heavyVotesBy_0 0 cX4_heavyVotesBy.data.toList = true := by decide +kernel
theorem dX4_heavyVotesBy_0 : decode cX4_heavyVotesBy 0 = .ok (.aload_n 1, 1) := fo_43 (fw_get da_cX4_heavyVotesBy_0 0 rfl)
theorem dX4_heavyVotesBy_1 : decode cX4_heavyVotesBy 1 = .ok (.iload_n 2, 1) := fo_28 (fw_get da_cX4_heavyVotesBy_0 1 rfl)
theorem dX4_heavyVotesBy_2 : decode cX4_heavyVotesBy 2 = .ok (.putfield 204, 3) := fo_181 (fw_get da_cX4_heavyVotesBy_0 2 rfl)
theorem dX4_heavyVotesBy_5 : decode cX4_heavyVotesBy 5 = .ok (.aload_n 1, 1) := fo_43 (fw_get da_cX4_heavyVotesBy_0 3 rfl)
theorem dX4_heavyVotesBy_6 : decode cX4_heavyVotesBy 6 = .ok (.iload_n 3, 1) := fo_29 (fw_get da_cX4_heavyVotesBy_0 4 rfl)
theorem dX4_heavyVotesBy_7 : decode cX4_heavyVotesBy 7 = .ok (.iload 4, 2) := fo_21 (fw_get da_cX4_heavyVotesBy_0 5 rfl)
theorem dX4_heavyVotesBy_9 : decode cX4_heavyVotesBy 9 = .ok (.invokevirtual 87, 3) := fo_182 (fw_get da_cX4_heavyVotesBy_0 6 rfl)
theorem dX4_heavyVotesBy_12 : decode cX4_heavyVotesBy 12 = .ok (.pop, 1) := fo_87 (fw_get da_cX4_heavyVotesBy_0 7 rfl)
theorem dX4_heavyVotesBy_13 : decode cX4_heavyVotesBy 13 = .ok (.aload_n 1, 1) := fo_43 (fw_get da_cX4_heavyVotesBy_0 8 rfl)
theorem dX4_heavyVotesBy_14 : decode cX4_heavyVotesBy 14 = .ok (.aload_n 0, 1) := fo_42 (fw_get da_cX4_heavyVotesBy_0 9 rfl)
theorem dX4_heavyVotesBy_15 : decode cX4_heavyVotesBy 15 = .ok (.getfield 35, 3) := fo_180 (fw_get da_cX4_heavyVotesBy_0 10 rfl)
theorem dX4_heavyVotesBy_18 : decode cX4_heavyVotesBy 18 = .ok (.iload_n 3, 1) := fo_29 (fw_get da_cX4_heavyVotesBy_0 11 rfl)
theorem dX4_heavyVotesBy_19 : decode cX4_heavyVotesBy 19 = .ok (.iload 4, 2) := fo_21 (fw_get da_cX4_heavyVotesBy_0 12 rfl)
theorem dX4_heavyVotesBy_21 : decode cX4_heavyVotesBy 21 = .ok (.invokevirtual 170, 3) := fo_182 (fw_get da_cX4_heavyVotesBy_0 13 rfl)
theorem dX4_heavyVotesBy_24 : decode cX4_heavyVotesBy 24 = .ok (.iconst 0, 1) := fo_3 (fw_get da_cX4_heavyVotesBy_0 14 rfl)
theorem dX4_heavyVotesBy_25 : decode cX4_heavyVotesBy 25 = .ok (.istore 7, 2) := fo_54 (fw_get da_cX4_heavyVotesBy_0 15 rfl)
theorem dX4_heavyVotesBy_27 : decode cX4_heavyVotesBy 27 = .ok (.iconst 0, 1) := fo_3 (fw_get da_cX4_heavyVotesBy_0 16 rfl)
theorem dX4_heavyVotesBy_28 : decode cX4_heavyVotesBy 28 = .ok (.istore 8, 2) := fo_54 (fw_get da_cX4_heavyVotesBy_0 17 rfl)
theorem dX4_heavyVotesBy_30 : decode cX4_heavyVotesBy 30 = .ok (.iload 8, 2) := fo_21 (fw_get da_cX4_heavyVotesBy_0 18 rfl)
theorem dX4_heavyVotesBy_32 : decode cX4_heavyVotesBy 32 = .ok (.aload_n 0, 1) := fo_42 (fw_get da_cX4_heavyVotesBy_0 19 rfl)
def dt_cX4_heavyVotesBy_1 : List (Nat × Nat × Nat × Nat) := [(33, 180, 2, 35), (36, 180, 2, 174), (39, 162, 2, 46), (42, 42, 0, 0), (43, 180, 2, 12), (46, 42, 0, 0), (47, 180, 2, 35), (50, 180, 2, 133), (53, 21, 1, 8), (55, 46, 0, 0), (56, 29, 0, 0), (57, 21, 1, 4), (59, 182, 2, 113), (62, 21, 1, 4), (64, 29, 0, 0), (65, 100, 0, 0), (66, 21, 1, 5), (68, 21, 1, 6), (70, 184, 2, 273), (73, 153, 2, 6)]
theorem da_cX4_heavyVotesBy_1 : fw dt_cX4_heavyVotesBy_1 0 cX4_heavyVotesBy.data.toList = true := by decide +kernel
theorem dX4_heavyVotesBy_33 : decode cX4_heavyVotesBy 33 = .ok (.getfield 35, 3) := fo_180 (fw_get da_cX4_heavyVotesBy_1 0 rfl)
theorem dX4_heavyVotesBy_36 : decode cX4_heavyVotesBy 36 = .ok (.getfield 174, 3) := fo_180 (fw_get da_cX4_heavyVotesBy_1 1 rfl)
theorem dX4_heavyVotesBy_39 : decode cX4_heavyVotesBy 39 = .ok (.if_icmp .ge 46, 3) := fo_162 (fw_get da_cX4_heavyVotesBy_1 2 rfl) (by decide +kernel)
theorem dX4_heavyVotesBy_42 : decode cX4_heavyVotesBy 42 = .ok (.aload_n 0, 1) := fo_42 (fw_get da_cX4_heavyVotesBy_1 3 rfl)
theorem dX4_heavyVotesBy_43 : decode cX4_heavyVotesBy 43 = .ok (.getfield 12, 3) := fo_180 (fw_get da_cX4_heavyVotesBy_1 4 rfl)
theorem dX4_heavyVotesBy_46 : decode cX4_heavyVotesBy 46 = .ok (.aload_n 0, 1) := fo_42 (fw_get da_cX4_heavyVotesBy_1 5 rfl)
theorem dX4_heavyVotesBy_47 : decode cX4_heavyVotesBy 47 = .ok (.getfield 35, 3) := fo_180 (fw_get da_cX4_heavyVotesBy_1 6 rfl)
theorem dX4_heavyVotesBy_50 : decode cX4_heavyVotesBy 50 = .ok (.getfield 133, 3) := fo_180 (fw_get da_cX4_heavyVotesBy_1 7 rfl)
theorem dX4_heavyVotesBy_53 : decode cX4_heavyVotesBy 53 = .ok (.iload 8, 2) := fo_21 (fw_get da_cX4_heavyVotesBy_1 8 rfl)
theorem dX4_heavyVotesBy_55 : decode cX4_heavyVotesBy 55 = .ok (.iaload, 1) := fo_46 (fw_get da_cX4_heavyVotesBy_1 9 rfl)
theorem dX4_heavyVotesBy_56 : decode cX4_heavyVotesBy 56 = .ok (.iload_n 3, 1) := fo_29 (fw_get da_cX4_heavyVotesBy_1 10 rfl)
theorem dX4_heavyVotesBy_57 : decode cX4_heavyVotesBy 57 = .ok (.iload 4, 2) := fo_21 (fw_get da_cX4_heavyVotesBy_1 11 rfl)
theorem dX4_heavyVotesBy_59 : decode cX4_heavyVotesBy 59 = .ok (.invokevirtual 113, 3) := fo_182 (fw_get da_cX4_heavyVotesBy_1 12 rfl)
theorem dX4_heavyVotesBy_62 : decode cX4_heavyVotesBy 62 = .ok (.iload 4, 2) := fo_21 (fw_get da_cX4_heavyVotesBy_1 13 rfl)
theorem dX4_heavyVotesBy_64 : decode cX4_heavyVotesBy 64 = .ok (.iload_n 3, 1) := fo_29 (fw_get da_cX4_heavyVotesBy_1 14 rfl)
theorem dX4_heavyVotesBy_65 : decode cX4_heavyVotesBy 65 = .ok (.isub, 1) := fo_100 (fw_get da_cX4_heavyVotesBy_1 15 rfl)
theorem dX4_heavyVotesBy_66 : decode cX4_heavyVotesBy 66 = .ok (.iload 5, 2) := fo_21 (fw_get da_cX4_heavyVotesBy_1 16 rfl)
theorem dX4_heavyVotesBy_68 : decode cX4_heavyVotesBy 68 = .ok (.iload 6, 2) := fo_21 (fw_get da_cX4_heavyVotesBy_1 17 rfl)
theorem dX4_heavyVotesBy_70 : decode cX4_heavyVotesBy 70 = .ok (.invokestatic 273, 3) := fo_184 (fw_get da_cX4_heavyVotesBy_1 18 rfl)
theorem dX4_heavyVotesBy_73 : decode cX4_heavyVotesBy 73 = .ok (.ifCond .eq 6, 3) := fo_153 (fw_get da_cX4_heavyVotesBy_1 19 rfl) (by decide +kernel)
def dt_cX4_heavyVotesBy_2 : List (Nat × Nat × Nat × Nat) := [(76, 132, 2, 1793), (79, 132, 2, 2049), (82, 167, 2, 65484), (85, 21, 1, 7), (87, 172, 0, 0)]
theorem da_cX4_heavyVotesBy_2 : fw dt_cX4_heavyVotesBy_2 0 cX4_heavyVotesBy.data.toList = true := by decide +kernel
theorem dX4_heavyVotesBy_76 : decode cX4_heavyVotesBy 76 = .ok (.iinc 7 1, 3) := fo_132 (fw_get da_cX4_heavyVotesBy_2 0 rfl) rfl (by decide +kernel)
theorem dX4_heavyVotesBy_79 : decode cX4_heavyVotesBy 79 = .ok (.iinc 8 1, 3) := fo_132 (fw_get da_cX4_heavyVotesBy_2 1 rfl) rfl (by decide +kernel)
theorem dX4_heavyVotesBy_82 : decode cX4_heavyVotesBy 82 = .ok (.goto (-52), 3) := fo_167 (fw_get da_cX4_heavyVotesBy_2 2 rfl) (by decide +kernel)
theorem dX4_heavyVotesBy_85 : decode cX4_heavyVotesBy 85 = .ok (.iload 7, 2) := fo_21 (fw_get da_cX4_heavyVotesBy_2 3 rfl)
theorem dX4_heavyVotesBy_87 : decode cX4_heavyVotesBy 87 = .ok (.ireturn, 1) := fo_172 (fw_get da_cX4_heavyVotesBy_2 4 rfl)
theorem mi_wsX4_rootTotalWith_wsX4_rootTotalWith_r1 : ∀ w ∈ wsX4_rootTotalWith_r1, w ∈ wsX4_rootTotalWith := fun _ h => (List.mem_cons_of_mem _ (List.mem_append_left _ (List.mem_append_left _ (List.mem_append_left _ (List.mem_append_left _ (List.mem_append_left _ h))))))
theorem mi_wsX4_rootTotalWith_wsX4_rootTotalWith_r2 : ∀ w ∈ wsX4_rootTotalWith_r2, w ∈ wsX4_rootTotalWith := fun _ h => (List.mem_cons_of_mem _ (List.mem_append_left _ (List.mem_append_left _ (List.mem_append_left _ (List.mem_append_left _ (List.mem_append_right _ (List.mem_append_left _ h)))))))
theorem mi_wsX4_rootTotalWith_wsX4_rootTotalWith_r3 : ∀ w ∈ wsX4_rootTotalWith_r3, w ∈ wsX4_rootTotalWith := fun _ h => (List.mem_cons_of_mem _ (List.mem_append_left _ (List.mem_append_left _ (List.mem_append_left _ (List.mem_append_left _ (List.mem_append_right _ (List.mem_append_right _ (List.mem_append_left _ h))))))))
theorem mi_wsX4_rootTotalWith_wsX4_rootTotalWith_r4 : ∀ w ∈ wsX4_rootTotalWith_r4, w ∈ wsX4_rootTotalWith := fun _ h => (List.mem_cons_of_mem _ (List.mem_append_left _ (List.mem_append_left _ (List.mem_append_left _ (List.mem_append_left _ (List.mem_append_right _ (List.mem_append_right _ (List.mem_append_right _ h))))))))
theorem mi_wsX4_rootTotalWith_wsX20 : ∀ w ∈ wsX20, w ∈ wsX4_rootTotalWith := fun _ h => (List.mem_cons_of_mem _ (List.mem_append_left _ (List.mem_append_right _ h)))
theorem mi_wsX4_rootTotalWith_wsX00 : ∀ w ∈ wsX00, w ∈ wsX4_rootTotalWith := fun _ h => (List.mem_cons_of_mem _ (List.mem_append_left _ (List.mem_append_left _ (List.mem_append_right _ h))))
theorem mi_wsX4_rootTotalWith_wsX30 : ∀ w ∈ wsX30, w ∈ wsX4_rootTotalWith := fun _ h => (List.mem_cons_of_mem _ (List.mem_append_right _ h))
set_option maxRecDepth 20000 in
theorem ggX4_rootTotalWith_X2_renew : GoodIn wsX4_rootTotalWith wsX2_renew := goodIn_k _ [(wsX4_rootTotalWith_r1, [7, 8, 9, 10, 11, 12, 13, 6, 14, 15, 16, 17, 18, 19, 20, 21, 22, 23]), (wsX4_rootTotalWith_r2, [0, 1, 2, 3, 4, 5, 6, 7, 8, 9, 10, 11, 12, 13, 14, 15, 16, 17, 18, 19, 20, 21, 22, 23]), (wsX4_rootTotalWith_r3, [0, 1, 2, 3, 4, 5, 6, 7, 8, 9, 10, 11, 12, 13, 14, 15, 16, 17, 18, 19, 20, 21, 22, 23]), (wsX4_rootTotalWith_r4, [0, 1, 2, 3, 4, 5, 6]), (wsX20, [0, 1, 2, 3, 4, 5, 6, 7, 8, 9, 10]), (wsX00, [0, 1]), (wsX30, [0, 1, 2, 3, 4])] (gk_c mi_wsX4_rootTotalWith_wsX4_rootTotalWith_r1 (gk_c mi_wsX4_rootTotalWith_wsX4_rootTotalWith_r2 (gk_c mi_wsX4_rootTotalWith_wsX4_rootTotalWith_r3 (gk_c mi_wsX4_rootTotalWith_wsX4_rootTotalWith_r4 (gk_c mi_wsX4_rootTotalWith_wsX20 (gk_c mi_wsX4_rootTotalWith_wsX00 (gk_c mi_wsX4_rootTotalWith_wsX30 gk_n))))))) rfl (by decide +kernel)
set_option maxRecDepth 20000 in
theorem gX4_rootTotalWith_X2_renew : GoodIn wsX4_rootTotalWith (wsV RX4 87 RX2 yX2_renew wsX2_renew) := goodIn_app (goodIn_k _ [(wsX4_rootTotalWith_r1, [3, 4, 5, 6])] (gk_c mi_wsX4_rootTotalWith_wsX4_rootTotalWith_r1 gk_n) rfl (by decide +kernel)) ggX4_rootTotalWith_X2_renew
set_option maxRecDepth 20000 in
theorem ggX4_rootTotalWith_X2_copyTo : GoodIn wsX4_rootTotalWith wsX2_copyTo := goodIn_k _ [(wsX4_rootTotalWith_r4, [10]), (wsX4_rootTotalWith_r1, [19, 20, 21, 22, 23]), (wsX4_rootTotalWith_r2, [0, 1, 2, 9, 10, 11]), (wsX4_rootTotalWith_r1, [6]), (wsX4_rootTotalWith_r2, [12, 13, 14, 15, 16, 17, 3, 4, 5, 6, 7, 8]), (wsX30, [0, 1, 2, 3, 4]), (wsX20, [0, 1, 2, 3, 4, 5, 6, 7, 8, 9, 10])] (gk_c mi_wsX4_rootTotalWith_wsX4_rootTotalWith_r4 (gk_c mi_wsX4_rootTotalWith_wsX4_rootTotalWith_r1 (gk_c mi_wsX4_rootTotalWith_wsX4_rootTotalWith_r2 (gk_c mi_wsX4_rootTotalWith_wsX4_rootTotalWith_r1 (gk_c mi_wsX4_rootTotalWith_wsX4_rootTotalWith_r2 (gk_c mi_wsX4_rootTotalWith_wsX30 (gk_c mi_wsX4_rootTotalWith_wsX20 gk_n))))))) rfl (by decide +kernel)
set_option maxRecDepth 20000 in
theorem gX4_rootTotalWith_X2_copyTo : GoodIn wsX4_rootTotalWith (wsV RX4 129 RX2 yX2_copyTo wsX2_copyTo) := goodIn_app (goodIn_k _ [(wsX4_rootTotalWith_r4, [7, 8, 9]), (wsX4_rootTotalWith_r1, [6])] (gk_c mi_wsX4_rootTotalWith_wsX4_rootTotalWith_r4 (gk_c mi_wsX4_rootTotalWith_wsX4_rootTotalWith_r1 gk_n)) rfl (by decide +kernel)) ggX4_rootTotalWith_X2_copyTo
set_option maxRecDepth 20000 in
theorem ggX4_rootTotalWith_X3_total : GoodIn wsX4_rootTotalWith wsX3_total := goodIn_k _ [(wsX4_rootTotalWith_r4, [14]), (wsX4_rootTotalWith_r2, [0, 8]), (wsX30, [0, 1, 2, 3, 4])] (gk_c mi_wsX4_rootTotalWith_wsX4_rootTotalWith_r4 (gk_c mi_wsX4_rootTotalWith_wsX4_rootTotalWith_r2 (gk_c mi_wsX4_rootTotalWith_wsX30 gk_n))) rfl (by decide +kernel)
set_option maxRecDepth 20000 in
theorem gX4_rootTotalWith_X3_total : GoodIn wsX4_rootTotalWith (wsV RX4 176 RX3 yX3_total wsX3_total) := goodIn_app (goodIn_k _ [(wsX4_rootTotalWith_r4, [11, 12, 13]), (wsX4_rootTotalWith_r1, [22])] (gk_c mi_wsX4_rootTotalWith_wsX4_rootTotalWith_r4 (gk_c mi_wsX4_rootTotalWith_wsX4_rootTotalWith_r1 gk_n)) rfl (by decide +kernel)) ggX4_rootTotalWith_X3_total
def dt_cX4_rootTotalWith_0 : List (Nat × Nat × Nat × Nat) := [(0, 42, 0, 0), (1, 180, 2, 12), (4, 180, 2, 110), (7, 28, 0, 0), (8, 46, 0, 0), (9, 54, 1, 4), (11, 42, 0, 0), (12, 180, 2, 12), (15, 180, 2, 110), (18, 28, 0, 0), (19, 29, 0, 0), (20, 79, 0, 0), (21, 43, 0, 0), (22, 28, 0, 0), (23, 28, 0, 0), (24, 4, 0, 0), (25, 96, 0, 0), (26, 182, 2, 87), (29, 87, 0, 0), (30, 43, 0, 0)]
theorem da_cX4_rootTotalWith_0 : fw dt_cX4_rootTotalWith_0 0 cX4_rootTotalWith.data.toList = true := by decide +kernel
theorem dX4_rootTotalWith_0 : decode cX4_rootTotalWith 0 = .ok (.aload_n 0, 1) := fo_42 (fw_get da_cX4_rootTotalWith_0 0 rfl)
theorem dX4_rootTotalWith_1 : decode cX4_rootTotalWith 1 = .ok (.getfield 12, 3) := fo_180 (fw_get da_cX4_rootTotalWith_0 1 rfl)
theorem dX4_rootTotalWith_4 : decode cX4_rootTotalWith 4 = .ok (.getfield 110, 3) := fo_180 (fw_get da_cX4_rootTotalWith_0 2 rfl)
theorem dX4_rootTotalWith_7 : decode cX4_rootTotalWith 7 = .ok (.iload_n 2, 1) := fo_28 (fw_get da_cX4_rootTotalWith_0 3 rfl)
theorem dX4_rootTotalWith_8 : decode cX4_rootTotalWith 8 = .ok (.iaload, 1) := fo_46 (fw_get da_cX4_rootTotalWith_0 4 rfl)
theorem dX4_rootTotalWith_9 : decode cX4_rootTotalWith 9 = .ok (.istore 4, 2) := fo_54 (fw_get da_cX4_rootTotalWith_0 5 rfl)
theorem dX4_rootTotalWith_11 : decode cX4_rootTotalWith 11 = .ok (.aload_n 0, 1) := fo_42 (fw_get da_cX4_rootTotalWith_0 6 rfl)
theorem dX4_rootTotalWith_12 : decode cX4_rootTotalWith 12 = .ok (.getfield 12, 3) := fo_180 (fw_get da_cX4_rootTotalWith_0 7 rfl)
theorem dX4_rootTotalWith_15 : decode cX4_rootTotalWith 15 = .ok (.getfield 110, 3) := fo_180 (fw_get da_cX4_rootTotalWith_0 8 rfl)
theorem dX4_rootTotalWith_18 : decode cX4_rootTotalWith 18 = .ok (.iload_n 2, 1) := fo_28 (fw_get da_cX4_rootTotalWith_0 9 rfl)
theorem dX4_rootTotalWith_19 : decode cX4_rootTotalWith 19 = .ok (.iload_n 3, 1) := fo_29 (fw_get da_cX4_rootTotalWith_0 10 rfl)
theorem dX4_rootTotalWith_20 : decode cX4_rootTotalWith 20 = .ok (.iastore, 1) := fo_79 (fw_get da_cX4_rootTotalWith_0 11 rfl)
theorem dX4_rootTotalWith_21 : decode cX4_rootTotalWith 21 = .ok (.aload_n 1, 1) := fo_43 (fw_get da_cX4_rootTotalWith_0 12 rfl)
theorem dX4_rootTotalWith_22 : decode cX4_rootTotalWith 22 = .ok (.iload_n 2, 1) := fo_28 (fw_get da_cX4_rootTotalWith_0 13 rfl)
theorem dX4_rootTotalWith_23 : decode cX4_rootTotalWith 23 = .ok (.iload_n 2, 1) := fo_28 (fw_get da_cX4_rootTotalWith_0 14 rfl)
theorem dX4_rootTotalWith_24 : decode cX4_rootTotalWith 24 = .ok (.iconst 1, 1) := fo_4 (fw_get da_cX4_rootTotalWith_0 15 rfl)
theorem dX4_rootTotalWith_25 : decode cX4_rootTotalWith 25 = .ok (.iadd, 1) := fo_96 (fw_get da_cX4_rootTotalWith_0 16 rfl)
theorem dX4_rootTotalWith_26 : decode cX4_rootTotalWith 26 = .ok (.invokevirtual 87, 3) := fo_182 (fw_get da_cX4_rootTotalWith_0 17 rfl)
theorem dX4_rootTotalWith_29 : decode cX4_rootTotalWith 29 = .ok (.pop, 1) := fo_87 (fw_get da_cX4_rootTotalWith_0 18 rfl)
theorem dX4_rootTotalWith_30 : decode cX4_rootTotalWith 30 = .ok (.aload_n 1, 1) := fo_43 (fw_get da_cX4_rootTotalWith_0 19 rfl)
def dt_cX4_rootTotalWith_1 : List (Nat × Nat × Nat × Nat) := [(31, 42, 0, 0), (32, 180, 2, 35), (35, 3, 0, 0), (36, 182, 2, 129), (39, 42, 0, 0), (40, 180, 2, 35), (43, 182, 2, 176), (46, 54, 1, 5), (48, 42, 0, 0), (49, 180, 2, 12), (52, 180, 2, 110), (55, 28, 0, 0), (56, 21, 1, 4), (58, 79, 0, 0), (59, 43, 0, 0), (60, 28, 0, 0), (61, 28, 0, 0), (62, 4, 0, 0), (63, 96, 0, 0), (64, 182, 2, 87)]
theorem da_cX4_rootTotalWith_1 : fw dt_cX4_rootTotalWith_1 0 cX4_rootTotalWith.data.toList = true := by decide +kernel
theorem dX4_rootTotalWith_31 : decode cX4_rootTotalWith 31 = .ok (.aload_n 0, 1) := fo_42 (fw_get da_cX4_rootTotalWith_1 0 rfl)
theorem dX4_rootTotalWith_32 : decode cX4_rootTotalWith 32 = .ok (.getfield 35, 3) := fo_180 (fw_get da_cX4_rootTotalWith_1 1 rfl)
theorem dX4_rootTotalWith_35 : decode cX4_rootTotalWith 35 = .ok (.iconst 0, 1) := fo_3 (fw_get da_cX4_rootTotalWith_1 2 rfl)
theorem dX4_rootTotalWith_36 : decode cX4_rootTotalWith 36 = .ok (.invokevirtual 129, 3) := fo_182 (fw_get da_cX4_rootTotalWith_1 3 rfl)
theorem dX4_rootTotalWith_39 : decode cX4_rootTotalWith 39 = .ok (.aload_n 0, 1) := fo_42 (fw_get da_cX4_rootTotalWith_1 4 rfl)
theorem dX4_rootTotalWith_40 : decode cX4_rootTotalWith 40 = .ok (.getfield 35, 3) := fo_180 (fw_get da_cX4_rootTotalWith_1 5 rfl)
theorem dX4_rootTotalWith_43 : decode cX4_rootTotalWith 43 = .ok (.invokevirtual 176, 3) := fo_182 (fw_get da_cX4_rootTotalWith_1 6 rfl)
theorem dX4_rootTotalWith_46 : decode cX4_rootTotalWith 46 = .ok (.istore 5, 2) := fo_54 (fw_get da_cX4_rootTotalWith_1 7 rfl)
theorem dX4_rootTotalWith_48 : decode cX4_rootTotalWith 48 = .ok (.aload_n 0, 1) := fo_42 (fw_get da_cX4_rootTotalWith_1 8 rfl)
theorem dX4_rootTotalWith_49 : decode cX4_rootTotalWith 49 = .ok (.getfield 12, 3) := fo_180 (fw_get da_cX4_rootTotalWith_1 9 rfl)
theorem dX4_rootTotalWith_52 : decode cX4_rootTotalWith 52 = .ok (.getfield 110, 3) := fo_180 (fw_get da_cX4_rootTotalWith_1 10 rfl)
theorem dX4_rootTotalWith_55 : decode cX4_rootTotalWith 55 = .ok (.iload_n 2, 1) := fo_28 (fw_get da_cX4_rootTotalWith_1 11 rfl)
theorem dX4_rootTotalWith_56 : decode cX4_rootTotalWith 56 = .ok (.iload 4, 2) := fo_21 (fw_get da_cX4_rootTotalWith_1 12 rfl)
theorem dX4_rootTotalWith_58 : decode cX4_rootTotalWith 58 = .ok (.iastore, 1) := fo_79 (fw_get da_cX4_rootTotalWith_1 13 rfl)
theorem dX4_rootTotalWith_59 : decode cX4_rootTotalWith 59 = .ok (.aload_n 1, 1) := fo_43 (fw_get da_cX4_rootTotalWith_1 14 rfl)
theorem dX4_rootTotalWith_60 : decode cX4_rootTotalWith 60 = .ok (.iload_n 2, 1) := fo_28 (fw_get da_cX4_rootTotalWith_1 15 rfl)
theorem dX4_rootTotalWith_61 : decode cX4_rootTotalWith 61 = .ok (.iload_n 2, 1) := fo_28 (fw_get da_cX4_rootTotalWith_1 16 rfl)
theorem dX4_rootTotalWith_62 : decode cX4_rootTotalWith 62 = .ok (.iconst 1, 1) := fo_4 (fw_get da_cX4_rootTotalWith_1 17 rfl)
theorem dX4_rootTotalWith_63 : decode cX4_rootTotalWith 63 = .ok (.iadd, 1) := fo_96 (fw_get da_cX4_rootTotalWith_1 18 rfl)
theorem dX4_rootTotalWith_64 : decode cX4_rootTotalWith 64 = .ok (.invokevirtual 87, 3) := fo_182 (fw_get da_cX4_rootTotalWith_1 19 rfl)
def dt_cX4_rootTotalWith_2 : List (Nat × Nat × Nat × Nat) := [(67, 87, 0, 0), (68, 21, 1, 5), (70, 172, 0, 0)]
theorem da_cX4_rootTotalWith_2 : fw dt_cX4_rootTotalWith_2 0 cX4_rootTotalWith.data.toList = true := by decide +kernel
theorem dX4_rootTotalWith_67 : decode cX4_rootTotalWith 67 = .ok (.pop, 1) := fo_87 (fw_get da_cX4_rootTotalWith_2 0 rfl)
theorem dX4_rootTotalWith_68 : decode cX4_rootTotalWith 68 = .ok (.iload 5, 2) := fo_21 (fw_get da_cX4_rootTotalWith_2 1 rfl)
theorem dX4_rootTotalWith_70 : decode cX4_rootTotalWith 70 = .ok (.ireturn, 1) := fo_172 (fw_get da_cX4_rootTotalWith_2 2 rfl)


set_option maxHeartbeats 4000000 in
set_option maxRecDepth 100000 in
theorem c_X4_heavyValues (l : Launch) (dC : Nat → ClassId) (dI : Nat → Nat → Nat) (m_ : Nat) (q_row : Nat) (q_t : Nat) (t_ : Nat) (h0 : Nat) (k0 : Nat) (w_ : Nat) (z_ : Nat) (slots : Int32) (old : Int32) (q_cell : Nat) (cyI : ClassId) (len : Int32) (f : Nat → Int32) (p0 : Int32) (p1 : Int32) (p2 : Int32) (p3 : Int32) (a0 : 0 ≤ len.toInt) (a1 : len.toInt ≤ 160) (d0 : 0 ≤ p0.toInt) (d1 : p1.toInt ≤ 160) : Met l yX4_heavyValues wsX4_heavyValues ({ frames := 1, cells := 0, slots := 0, locals := 45 }) (va_Pc [.ref m_, .int p0, .int p1, .int p2, .int p3] (fun U => va_P (dC, dI) vwCl [kx_4 m_ q_row q_t t_ h0 k0 w_ z_ slots old, kx_0 q_row q_cell len, kx_a q_cell cyI 160 f] U.heap ∧ va_K (dC, dI) vwCl [(cyI, .int)] U)) (vp_Si (fun r : Int32 => True)) 0 0 (fun _ => False) := by
  refine Met.ofW (cc := cX4_heavyValues) (maxL := 8) (ret := (some .int)) (by decide) rfl ?_
  intro p e s m args below meth c s₁ B hml hv
  obtain ⟨rfl, hP, hK⟩ := hv
  have hx := B.exec
  have hb := B.bytes
  have hr := B.returns
  have hts := atoms_spec (ws := wsX4_heavyValues) B.pre
  have hown : s.vm.findClass RX4 = some m.cls := findClass_of_methodNamed B.named
  have hlocks := B.notSynchronized
  have hP : va_P (dC, dI) vwCl [kx_4 m_ q_row q_t t_ h0 k0 w_ z_ slots old, kx_0 q_row q_cell len, kx_a q_cell cyI 160 f] s.heap := hP
  have hl := lv_entry ([.ref m_, .int p0, .int p1, .int p2, .int p3]) (n := 8) (Nat.le_of_ble_eq_true rfl)
  rw [lg_entry_eq]
  generalize (lg_sl ([.ref m_, .int p0, .int p1, .int p2, .int p3]) ++ List.replicate (8 - (lg_sl ([.ref m_, .int p0, .int p1, .int p2, .int p3])).length) Slot.unset).toArray = ls at hl ⊢
  have hl : lv_has ls 8 [(0, .ref m_), (1, .int p0), (2, .int p1), (3, .int p2), (4, .int p3)] := hl
  have hf_12 := hts (.fieldLink RX4 12 "MajorityIndex" "row" "LMajorityIndex$Row;") (List.mem_of_getElem? (i := 1) rfl)
  have hi_4 : ∀ w ∈ u_ws RX4 TX4 9, w ∈ wsX4_heavyValues := fun w h => List.mem_cons_of_mem _ (List.mem_append_left _ (List.mem_append_right _ h))
  have hf_110 := hts (.fieldLink RX4 110 "MajorityIndex$Row" "cell" "[I") (List.mem_of_getElem? (i := 2) rfl)
  have hi_0 : ∀ w ∈ u_ws RX0 TX0 2, w ∈ wsX4_heavyValues := fun w h => List.mem_cons_of_mem _ (List.mem_append_right _ h)
  refine lv_iconst (v := 0) hx hb dX4_heavyValues_0 (by decide) ?_
  refine lv_istore (lv' := [(5, .int 0), (0, .ref m_), (1, .int p0), (2, .int p1), (3, .int p2), (4, .int p3)]) hx hb dX4_heavyValues_1 hl (by decide) rfl (fun ls hl => ?_)
  refine lv_iload_n hx hb dX4_heavyValues_3 rfl (lv_at hl 2 rfl) ?_
  refine lv_istore (lv' := [(6, .int p0), (5, .int 0), (0, .ref m_), (1, .int p0), (2, .int p1), (3, .int p2), (4, .int p3)]) hx hb dX4_heavyValues_4 hl (by decide) rfl (fun ls hl => ?_)
  have LP1 : ∀ (n : Nat) (i : Int32) (many : Int32), (p0.toInt ≤ i.toInt) → (p1.toInt - i.toInt).toNat < n → ∀ (ls : Array Slot), lv_has ls 8 [(6, .int i), (5, .int many), (0, .ref m_), (1, .int p0), (2, .int p1), (3, .int p2), (4, .int p3)] → W p l e (headSpec wsX4_heavyValues ({ frames := 1, cells := 0, slots := 0, locals := 45 })).room s m ([.ref m_, .int p0, .int p1, .int p2, .int p3] : List Value).toArray below meth c s.heap [] 0 0 (MQ below (vp_Si (fun r : Int32 => True)) ([.ref m_, .int p0, .int p1, .int p2, .int p3] : List Value).toArray s 0 0 (fun _ => False)) (F0 m 6 ls []) := by
    intro n
    induction n with
    | zero => intro i many LP1_h0 hn; exact absurd hn (Nat.not_lt_zero _)
    | succ n ih1 =>
      intro i many LP1_h0 hn1 ls hl
      refine lv_iload hx hb dX4_heavyValues_6 (lv_at hl 0 rfl) ?_
      refine lv_iload_n hx hb dX4_heavyValues_8 rfl (lv_at hl 4 rfl) ?_
      refine lv_icmp_ge (tgt := 72) hx hb dX4_heavyValues_9 (by decide) (fun c_1 => ?_) (fun c_1 => ?_)
      · have i_1 : p1.toInt ≤ i.toInt := kc_le c_1
        refine lv_iload hx hb dX4_heavyValues_72 (lv_at hl 1 rfl) ?_
        exact W.iret (v := many) hx hb hr (fun t ht hW => ⟨many, rfl, trivial, ht⟩) (fun q hq => by cases hq) dX4_heavyValues_74
      · have i_1 : i.toInt < p1.toInt := kc_nle c_1
        refine lv_aload_n hx hb dX4_heavyValues_12 rfl (lv_at hl 2 rfl) ?_
        refine va_get (D := (dC, dI)) (ci := 4) (v := .ref q_row) (C := RX4) (T := TX4) (N := 9) hx hb hts hi_4 hown hK hP 0 rfl rfl 0 (by decide) hf_12 (fun _ h9 => h9) rfl dX4_heavyValues_13 ?_
        refine va_get (D := (dC, dI)) (ci := 0) (v := .ref q_cell) (C := RX0) (T := TX0) (N := 2) hx hb hts hi_0 hown hK hP 1 rfl rfl 0 (by decide) hf_110 (fun _ h9 => h9) rfl dX4_heavyValues_16 ?_
        refine lv_iload hx hb dX4_heavyValues_19 (lv_at hl 0 rfl) ?_
        refine va_iald hx hb hK hP 2 0 rfl rfl (ki_in (om_0 d0 LP1_h0) (om_1 d1 i_1)) dX4_heavyValues_21 ?_
        refine lv_topi (fun y_2 ey_2 => ?_)
        have j_2 : y_2.toInt = (f i.toNatClampNeg).toInt := congrArg Int32.toInt ey_2
        refine lv_istore (lv' := [(7, .int y_2), (6, .int i), (5, .int many), (0, .ref m_), (1, .int p0), (2, .int p1), (3, .int p2), (4, .int p3)]) hx hb dX4_heavyValues_22 hl (by decide) rfl (fun ls hl => ?_)
        refine lv_aload_n hx hb dX4_heavyValues_24 rfl (lv_at hl 3 rfl) ?_
        refine va_get (D := (dC, dI)) (ci := 4) (v := .ref q_row) (C := RX4) (T := TX4) (N := 9) hx hb hts hi_4 hown hK hP 0 rfl rfl 0 (by decide) hf_12 (fun _ h9 => h9) rfl dX4_heavyValues_25 ?_
        refine lv_iload hx hb dX4_heavyValues_28 (lv_at hl 0 rfl) ?_
        refine lv_iload_n hx hb dX4_heavyValues_30 rfl (lv_at hl 4 rfl) ?_
        refine lv_iload hx hb dX4_heavyValues_31 (lv_at hl 1 rfl) ?_
        have hPc := hP.sub (ws' := [kx_0 q_row q_cell len, kx_a q_cell cyI 160 f]) [1, 2] rfl
        have hKc := hK
        refine vp_callSi (W.runV (As := [.int y_2, .int p0, .int i]) (rest := []) ⟨hx, hb, hml, hown, hts⟩ (c_X0_oftenIn l dC dI q_row q_cell cyI len f y_2 p0 i d0 (om_177 d1 i_1)) (cwV 3 hts gX4_heavyValues_X0_oftenIn rfl rfl rfl (by decide +kernel) ⟨Nat.le_of_ble_eq_true rfl, Nat.le_of_ble_eq_true rfl⟩) ⟨fun a U g mk q => by obtain ⟨q0, qP, qK⟩ := q; exact ⟨q0, qP, va_K.moved (u := U) (U := U.calling g mk a) (Vm.Alike.refl U.vm) qK⟩, va_recv hKc hPc (ci := 0) (q0 := 0) rfl rfl, fun U hU hW => ⟨rfl, by rw [hU]; exact hPc, va_K.moved hW.alike hKc⟩⟩ rfl rfl hl.1 rfl (lv_room (Nat.le_of_ble_eq_true rfl)) dX4_heavyValues_33 ⟨Nat.le_of_ble_eq_true rfl, Nat.le_of_ble_eq_true rfl⟩) (fun r_3 w_3 => ?_)
        have w_3 : r_3.toInt = (cnt f y_2 p0.toNatClampNeg (i.toInt - p0.toInt).toNat : Int) := w_3
        refine lv_if_ne (tgt := 66) hx hb dX4_heavyValues_36 (by decide) (fun c_4 => ?_) (fun c_4 => ?_)
        · have i_4 : ¬ r_3.toInt = 0 := kc_ne c_4
          obtain ⟨x_5, ex_5⟩ : ∃ y : Int32, y = i + 1 := ⟨_, rfl⟩
          have i_5 : x_5.toInt = i.toInt + 1 := ki_add ex_5 rfl rfl (om_2 d0 LP1_h0) (om_3 d1 i_1)
          refine lv_iinc (v := x_5) (lv' := [(6, .int x_5), (7, .int y_2), (5, .int many), (0, .ref m_), (1, .int p0), (2, .int p1), (3, .int p2), (4, .int p3)]) hx hb dX4_heavyValues_66 hl (k := 1) rfl (by rw [ex_5]; rfl) (by decide) rfl (fun ls hl => ?_)
          refine lv_goto (tgt := 6) hx hb dX4_heavyValues_69 (by decide) ?_
          exact ih1 x_5 many (om_4 LP1_h0 i_5) (om_mu hn1 (om_5 i_5) (om_6 i_1)) ls (lv_sub hl [0, 2, 3, 4, 5, 6, 7] rfl)
        · have i_4 : r_3.toInt = 0 := kc_eq c_4
          refine lv_aload_n hx hb dX4_heavyValues_39 rfl (lv_at hl 3 rfl) ?_
          refine va_get (D := (dC, dI)) (ci := 4) (v := .ref q_row) (C := RX4) (T := TX4) (N := 9) hx hb hts hi_4 hown hK hP 0 rfl rfl 0 (by decide) hf_12 (fun _ h9 => h9) rfl dX4_heavyValues_40 ?_
          refine lv_iload hx hb dX4_heavyValues_43 (lv_at hl 0 rfl) ?_
          refine lv_iload hx hb dX4_heavyValues_45 (lv_at hl 1 rfl) ?_
          refine lv_iload_n hx hb dX4_heavyValues_47 rfl (lv_at hl 5 rfl) ?_
          have hPc := hP.sub (ws' := [kx_0 q_row q_cell len, kx_a q_cell cyI 160 f]) [1, 2] rfl
          have hKc := hK
          refine vp_callSi (W.runV (As := [.int y_2, .int i, .int p1]) (rest := []) ⟨hx, hb, hml, hown, hts⟩ (c_X0_oftenIn l dC dI q_row q_cell cyI len f y_2 i p1 (om_0 d0 LP1_h0) d1) (cwV 3 hts gX4_heavyValues_X0_oftenIn rfl rfl rfl (by decide +kernel) ⟨Nat.le_of_ble_eq_true rfl, Nat.le_of_ble_eq_true rfl⟩) ⟨fun a U g mk q => by obtain ⟨q0, qP, qK⟩ := q; exact ⟨q0, qP, va_K.moved (u := U) (U := U.calling g mk a) (Vm.Alike.refl U.vm) qK⟩, va_recv hKc hPc (ci := 0) (q0 := 0) rfl rfl, fun U hU hW => ⟨rfl, by rw [hU]; exact hPc, va_K.moved hW.alike hKc⟩⟩ rfl rfl hl.1 rfl (lv_room (Nat.le_of_ble_eq_true rfl)) dX4_heavyValues_48 ⟨Nat.le_of_ble_eq_true rfl, Nat.le_of_ble_eq_true rfl⟩) (fun r_6 w_6 => ?_)
          have w_6 : r_6.toInt = (cnt f y_2 i.toNatClampNeg (p1.toInt - i.toInt).toNat : Int) := w_6
          refine lv_iload_n hx hb dX4_heavyValues_51 rfl (lv_at hl 5 rfl) ?_
          refine lv_iload_n hx hb dX4_heavyValues_52 rfl (lv_at hl 4 rfl) ?_
          refine lv_isub hx hb dX4_heavyValues_53 ?_
          refine lv_topi (fun y_7 ey_7 => ?_)
          refine lv_iload_n hx hb dX4_heavyValues_54 rfl (lv_at hl 6 rfl) ?_
          refine lv_iload hx hb dX4_heavyValues_55 (lv_at hl 7 rfl) ?_
          have hPc := hP.sub (ws' := []) [] rfl
          have hKc := hK.sub (tys' := []) [] rfl
          refine vp_callSi (W.runS (As := [.int r_6, .int y_7, .int p2, .int p3]) (rest := []) ⟨hx, hb, hml, hown, hts⟩ (c_X4_isHeavy l dC dI r_6 y_7 p2 p3) (va_cwS 4 hts gX4_heavyValues_X4_isHeavy rfl rfl rfl (by decide +kernel) ⟨Nat.le_of_ble_eq_true rfl, Nat.le_of_ble_eq_true rfl⟩) ⟨fun a U g mk q => by obtain ⟨q0, qP, qK⟩ := q; exact ⟨q0, qP, va_K.moved (u := U) (U := U.calling g mk a) (Vm.Alike.refl U.vm) qK⟩, fun U hU hW => ⟨rfl, by rw [hU]; exact hPc, va_K.moved hW.alike hKc⟩⟩ rfl rfl hl.1 rfl (lv_room (Nat.le_of_ble_eq_true rfl)) dX4_heavyValues_57 ⟨Nat.le_of_ble_eq_true rfl, Nat.le_of_ble_eq_true rfl⟩) (fun r_8 w_8 => ?_)
          rcases w_8 with ⟨rfl, w_8⟩ | ⟨rfl, w_8⟩
          · have w_8 : (0 : Int) ≤ 1 := w_8
            refine lv_if_eq (tgt := 66) hx hb dX4_heavyValues_60 (by decide) (fun c_9 => ?_) (fun c_9 => ?_)
            · exact absurd c_9 (by decide)
            · obtain ⟨x_10, ex_10⟩ : ∃ y : Int32, y = many + 1 := ⟨_, rfl⟩
              refine lv_iinc (v := x_10) (lv' := [(5, .int x_10), (7, .int y_2), (6, .int i), (0, .ref m_), (1, .int p0), (2, .int p1), (3, .int p2), (4, .int p3)]) hx hb dX4_heavyValues_63 hl (k := 2) rfl (by rw [ex_10]; rfl) (by decide) rfl (fun ls hl => ?_)
              obtain ⟨x_11, ex_11⟩ : ∃ y : Int32, y = i + 1 := ⟨_, rfl⟩
              have i_11 : x_11.toInt = i.toInt + 1 := ki_add ex_11 rfl rfl (om_2 d0 LP1_h0) (om_3 d1 i_1)
              refine lv_iinc (v := x_11) (lv' := [(6, .int x_11), (5, .int x_10), (7, .int y_2), (0, .ref m_), (1, .int p0), (2, .int p1), (3, .int p2), (4, .int p3)]) hx hb dX4_heavyValues_66 hl (k := 2) rfl (by rw [ex_11]; rfl) (by decide) rfl (fun ls hl => ?_)
              refine lv_goto (tgt := 6) hx hb dX4_heavyValues_69 (by decide) ?_
              exact ih1 x_11 x_10 (om_4 LP1_h0 i_11) (om_mu hn1 (om_5 i_11) (om_6 i_1)) ls (lv_sub hl [0, 1, 3, 4, 5, 6, 7] rfl)
          · have w_8 : (0 : Int) ≤ 1 := w_8
            refine lv_if_eq (tgt := 66) hx hb dX4_heavyValues_60 (by decide) (fun c_12 => ?_) (fun c_12 => ?_)
            · obtain ⟨x_13, ex_13⟩ : ∃ y : Int32, y = i + 1 := ⟨_, rfl⟩
              have i_13 : x_13.toInt = i.toInt + 1 := ki_add ex_13 rfl rfl (om_2 d0 LP1_h0) (om_3 d1 i_1)
              refine lv_iinc (v := x_13) (lv' := [(6, .int x_13), (7, .int y_2), (5, .int many), (0, .ref m_), (1, .int p0), (2, .int p1), (3, .int p2), (4, .int p3)]) hx hb dX4_heavyValues_66 hl (k := 1) rfl (by rw [ex_13]; rfl) (by decide) rfl (fun ls hl => ?_)
              refine lv_goto (tgt := 6) hx hb dX4_heavyValues_69 (by decide) ?_
              exact ih1 x_13 many (om_4 LP1_h0 i_13) (om_mu hn1 (om_5 i_13) (om_6 i_1)) ls (lv_sub hl [0, 2, 3, 4, 5, 6, 7] rfl)
            · exact absurd c_12 (by decide)
  have k_14 : (0 : Int32).toInt = 0 := rfl
  exact LP1 ((p1.toInt - p0.toInt : Int).toNat + 1) p0 0 om_7 (Nat.lt_succ_self _) ls (lv_sub hl [0, 1, 2, 3, 4, 5, 6] rfl)

set_option maxHeartbeats 4000000 in
set_option maxRecDepth 100000 in
theorem c_X4_refusalOfBoth (l : Launch) (dC : Nat → ClassId) (dI : Nat → Nat → Nat) (m_ : Nat) (q_row : Nat) (q_t : Nat) (t_ : Nat) (h0 : Nat) (k0 : Nat) (w_ : Nat) (z_ : Nat) (slots : Int32) (old : Int32) (q_cell : Nat) (cyI : ClassId) (len : Int32) (f : Nat → Int32) (p0 : Int32) (p1 : Int32) (p2 : Int32) (p3 : Int32) (p4 : Int32) (p5 : Int32) (a0 : 0 ≤ len.toInt) (a1 : len.toInt ≤ 160) : Met l yX4_refusalOfBoth wsX4_refusalOfBoth ({ frames := 1, cells := 0, slots := 0, locals := 45 }) (va_Pc [.ref m_, .int p0, .int p1, .int p2, .int p3, .int p4, .int p5] (fun U => va_P (dC, dI) vwCl [kx_4 m_ q_row q_t t_ h0 k0 w_ z_ slots old, kx_0 q_row q_cell len, kx_a q_cell cyI 160 f] U.heap ∧ va_K (dC, dI) vwCl [(cyI, .int)] U)) (vp_Si (fun r : Int32 => (r = 0 ∧ (0 ≤ p0.toInt ∧ p0.toInt < p1.toInt ∧ p1.toInt ≤ len.toInt ∧ 0 ≤ p2.toInt ∧ p2.toInt < p3.toInt ∧ p3.toInt ≤ len.toInt)) ∨ (r = (-1) ∧ (0 : Int) ≤ 1) ∨ (r = (-2) ∧ (0 : Int) ≤ 1) ∨ (r = (-3) ∧ (0 : Int) ≤ 1))) 0 0 (fun _ => False) := by
  refine Met.ofW (cc := cX4_refusalOfBoth) (maxL := 7) (ret := (some .int)) (by decide) rfl ?_
  intro p e s m args below meth c s₁ B hml hv
  obtain ⟨rfl, hP, hK⟩ := hv
  have hx := B.exec
  have hb := B.bytes
  have hr := B.returns
  have hts := atoms_spec (ws := wsX4_refusalOfBoth) B.pre
  have hown : s.vm.findClass RX4 = some m.cls := findClass_of_methodNamed B.named
  have hlocks := B.notSynchronized
  have hP : va_P (dC, dI) vwCl [kx_4 m_ q_row q_t t_ h0 k0 w_ z_ slots old, kx_0 q_row q_cell len, kx_a q_cell cyI 160 f] s.heap := hP
  have hl := lv_entry ([.ref m_, .int p0, .int p1, .int p2, .int p3, .int p4, .int p5]) (n := 7) (Nat.le_of_ble_eq_true rfl)
  rw [lg_entry_eq]
  generalize (lg_sl ([.ref m_, .int p0, .int p1, .int p2, .int p3, .int p4, .int p5]) ++ List.replicate (7 - (lg_sl ([.ref m_, .int p0, .int p1, .int p2, .int p3, .int p4, .int p5])).length) Slot.unset).toArray = ls at hl ⊢
  have hl : lv_has ls 7 [(0, .ref m_), (1, .int p0), (2, .int p1), (3, .int p2), (4, .int p3), (5, .int p4), (6, .int p5)] := hl
  have hf_12 := hts (.fieldLink RX4 12 "MajorityIndex" "row" "LMajorityIndex$Row;") (List.mem_of_getElem? (i := 1) rfl)
  have hi_4 : ∀ w ∈ u_ws RX4 TX4 9, w ∈ wsX4_refusalOfBoth := fun w h => List.mem_cons_of_mem _ (List.mem_append_left _ (List.mem_append_right _ h))
  refine lv_aload_n hx hb dX4_refusalOfBoth_0 rfl (lv_at hl 0 rfl) ?_
  refine va_get (D := (dC, dI)) (ci := 4) (v := .ref q_row) (C := RX4) (T := TX4) (N := 9) hx hb hts hi_4 hown hK hP 0 rfl rfl 0 (by decide) hf_12 (fun _ h9 => h9) rfl dX4_refusalOfBoth_1 ?_
  refine lv_iload_n hx hb dX4_refusalOfBoth_4 rfl (lv_at hl 1 rfl) ?_
  refine lv_iload_n hx hb dX4_refusalOfBoth_5 rfl (lv_at hl 2 rfl) ?_
  have hPc := hP.sub (ws' := [kx_0 q_row q_cell len]) [1] rfl
  have hKc := hK.sub (tys' := []) [] rfl
  refine vp_callSi (W.runV (As := [.int p0, .int p1]) (rest := []) ⟨hx, hb, hml, hown, hts⟩ (c_X0_hasRange l dC dI q_row q_cell len p0 p1) (cwV 2 hts gX4_refusalOfBoth_X0_hasRange rfl rfl rfl (by decide +kernel) ⟨Nat.le_of_ble_eq_true rfl, Nat.le_of_ble_eq_true rfl⟩) ⟨fun a U g mk q => by obtain ⟨q0, qP, qK⟩ := q; exact ⟨q0, qP, va_K.moved (u := U) (U := U.calling g mk a) (Vm.Alike.refl U.vm) qK⟩, va_recv hKc hPc (ci := 0) (q0 := 0) rfl rfl, fun U hU hW => ⟨rfl, by rw [hU]; exact hPc, va_K.moved hW.alike hKc⟩⟩ rfl rfl hl.1 rfl (lv_room (Nat.le_of_ble_eq_true rfl)) dX4_refusalOfBoth_6 ⟨Nat.le_of_ble_eq_true rfl, Nat.le_of_ble_eq_true rfl⟩) (fun r_1 w_1 => ?_)
  rcases w_1 with ⟨rfl, w_1⟩ | ⟨rfl, w_1⟩
  · have w_1 : (0 ≤ p0.toInt ∧ p0.toInt < p1.toInt ∧ p1.toInt ≤ len.toInt) := w_1
    refine lv_if_eq (tgt := 35) hx hb dX4_refusalOfBoth_9 (by decide) (fun c_2 => ?_) (fun c_2 => ?_)
    · exact absurd c_2 (by decide)
    · refine lv_aload_n hx hb dX4_refusalOfBoth_12 rfl (lv_at hl 0 rfl) ?_
      refine va_get (D := (dC, dI)) (ci := 4) (v := .ref q_row) (C := RX4) (T := TX4) (N := 9) hx hb hts hi_4 hown hK hP 0 rfl rfl 0 (by decide) hf_12 (fun _ h9 => h9) rfl dX4_refusalOfBoth_13 ?_
      refine lv_iload_n hx hb dX4_refusalOfBoth_16 rfl (lv_at hl 3 rfl) ?_
      refine lv_iload hx hb dX4_refusalOfBoth_17 (lv_at hl 4 rfl) ?_
      have hPc := hP.sub (ws' := [kx_0 q_row q_cell len]) [1] rfl
      have hKc := hK.sub (tys' := []) [] rfl
      refine vp_callSi (W.runV (As := [.int p2, .int p3]) (rest := []) ⟨hx, hb, hml, hown, hts⟩ (c_X0_hasRange l dC dI q_row q_cell len p2 p3) (cwV 2 hts gX4_refusalOfBoth_X0_hasRange rfl rfl rfl (by decide +kernel) ⟨Nat.le_of_ble_eq_true rfl, Nat.le_of_ble_eq_true rfl⟩) ⟨fun a U g mk q => by obtain ⟨q0, qP, qK⟩ := q; exact ⟨q0, qP, va_K.moved (u := U) (U := U.calling g mk a) (Vm.Alike.refl U.vm) qK⟩, va_recv hKc hPc (ci := 0) (q0 := 0) rfl rfl, fun U hU hW => ⟨rfl, by rw [hU]; exact hPc, va_K.moved hW.alike hKc⟩⟩ rfl rfl hl.1 rfl (lv_room (Nat.le_of_ble_eq_true rfl)) dX4_refusalOfBoth_19 ⟨Nat.le_of_ble_eq_true rfl, Nat.le_of_ble_eq_true rfl⟩) (fun r_3 w_3 => ?_)
      rcases w_3 with ⟨rfl, w_3⟩ | ⟨rfl, w_3⟩
      · have w_3 : (0 ≤ p2.toInt ∧ p2.toInt < p3.toInt ∧ p3.toInt ≤ len.toInt) := w_3
        refine lv_if_eq (tgt := 35) hx hb dX4_refusalOfBoth_22 (by decide) (fun c_4 => ?_) (fun c_4 => ?_)
        · exact absurd c_4 (by decide)
        · refine lv_iload hx hb dX4_refusalOfBoth_25 (lv_at hl 5 rfl) ?_
          refine lv_iload hx hb dX4_refusalOfBoth_27 (lv_at hl 6 rfl) ?_
          have hPc := hP.sub (ws' := []) [] rfl
          have hKc := hK.sub (tys' := []) [] rfl
          refine vp_callSi (W.runS (As := [.int p4, .int p5]) (rest := []) ⟨hx, hb, hml, hown, hts⟩ (c_X4_isShare l dC dI p4 p5) (va_cwS 2 hts gX4_refusalOfBoth_X4_isShare rfl rfl rfl (by decide +kernel) ⟨Nat.le_of_ble_eq_true rfl, Nat.le_of_ble_eq_true rfl⟩) ⟨fun a U g mk q => by obtain ⟨q0, qP, qK⟩ := q; exact ⟨q0, qP, va_K.moved (u := U) (U := U.calling g mk a) (Vm.Alike.refl U.vm) qK⟩, fun U hU hW => ⟨rfl, by rw [hU]; exact hPc, va_K.moved hW.alike hKc⟩⟩ rfl rfl hl.1 rfl (lv_room (Nat.le_of_ble_eq_true rfl)) dX4_refusalOfBoth_29 ⟨Nat.le_of_ble_eq_true rfl, Nat.le_of_ble_eq_true rfl⟩) (fun r_5 w_5 => ?_)
          rcases w_5 with ⟨rfl, w_5⟩ | ⟨rfl, w_5⟩
          · have w_5 : (1 ≤ p4.toInt ∧ p4.toInt ≤ p5.toInt ∧ p5.toInt ≤ 999) := w_5
            refine lv_if_ne (tgt := 37) hx hb dX4_refusalOfBoth_32 (by decide) (fun c_6 => ?_) (fun c_6 => ?_)
            · refine lv_aload_n hx hb dX4_refusalOfBoth_37 rfl (lv_at hl 0 rfl) ?_
              refine lv_iload hx hb dX4_refusalOfBoth_38 (lv_at hl 5 rfl) ?_
              refine lv_iload hx hb dX4_refusalOfBoth_40 (lv_at hl 6 rfl) ?_
              have hPc := hP.sub (ws' := [kx_4 m_ q_row q_t t_ h0 k0 w_ z_ slots old]) [0] rfl
              have hKc := hK.sub (tys' := []) [] rfl
              refine vp_callSi (W.runV (As := [.int p4, .int p5]) (rest := []) ⟨hx, hb, hml, hown, hts⟩ (c_X4_isEnough l dC dI m_ q_row q_t t_ h0 k0 w_ z_ slots old p4 p5) (cwV 2 hts gX4_refusalOfBoth_X4_isEnough rfl rfl rfl (by decide +kernel) ⟨Nat.le_of_ble_eq_true rfl, Nat.le_of_ble_eq_true rfl⟩) ⟨fun a U g mk q => by obtain ⟨q0, qP, qK⟩ := q; exact ⟨q0, qP, va_K.moved (u := U) (U := U.calling g mk a) (Vm.Alike.refl U.vm) qK⟩, va_recv hKc hPc (ci := 4) (q0 := 0) rfl rfl, fun U hU hW => ⟨rfl, by rw [hU]; exact hPc, va_K.moved hW.alike hKc⟩⟩ rfl rfl hl.1 rfl (lv_room (Nat.le_of_ble_eq_true rfl)) dX4_refusalOfBoth_42 ⟨Nat.le_of_ble_eq_true rfl, Nat.le_of_ble_eq_true rfl⟩) (fun r_7 w_7 => ?_)
              rcases w_7 with ⟨rfl, w_7⟩ | ⟨rfl, w_7⟩
              · have w_7 : (0 : Int) ≤ 1 := w_7
                refine lv_if_ne (tgt := 51) hx hb dX4_refusalOfBoth_45 (by decide) (fun c_8 => ?_) (fun c_8 => ?_)
                · refine lv_iload_n hx hb dX4_refusalOfBoth_51 rfl (lv_at hl 1 rfl) ?_
                  refine lv_iload hx hb dX4_refusalOfBoth_52 (lv_at hl 4 rfl) ?_
                  refine lv_icmp_ge (tgt := 67) hx hb dX4_refusalOfBoth_54 (by decide) (fun c_9 => ?_) (fun c_9 => ?_)
                  · have i_9 : p3.toInt ≤ p0.toInt := kc_le c_9
                    refine lv_iconst (v := 0) hx hb dX4_refusalOfBoth_67 (by decide) ?_
                    exact W.iret (v := 0) hx hb hr (fun t ht hW => ⟨0, rfl, Or.inl ⟨rfl, by omega⟩, ht⟩) (fun q hq => by cases hq) dX4_refusalOfBoth_68
                  · have i_9 : p0.toInt < p3.toInt := kc_nle c_9
                    refine lv_iload_n hx hb dX4_refusalOfBoth_57 rfl (lv_at hl 3 rfl) ?_
                    refine lv_iload_n hx hb dX4_refusalOfBoth_58 rfl (lv_at hl 2 rfl) ?_
                    refine lv_icmp_ge (tgt := 67) hx hb dX4_refusalOfBoth_59 (by decide) (fun c_10 => ?_) (fun c_10 => ?_)
                    · have i_10 : p1.toInt ≤ p2.toInt := kc_le c_10
                      refine lv_iconst (v := 0) hx hb dX4_refusalOfBoth_67 (by decide) ?_
                      exact W.iret (v := 0) hx hb hr (fun t ht hW => ⟨0, rfl, Or.inl ⟨rfl, by omega⟩, ht⟩) (fun q hq => by cases hq) dX4_refusalOfBoth_68
                    · have i_10 : p2.toInt < p1.toInt := kc_nle c_10
                      refine lv_bipush (v := (-3)) hx hb dX4_refusalOfBoth_62 (by decide) ?_
                      refine lv_goto (tgt := 68) hx hb dX4_refusalOfBoth_64 (by decide) ?_
                      exact W.iret (v := (-3)) hx hb hr (fun t ht hW => ⟨(-3), rfl, Or.inr (Or.inr (Or.inr (⟨rfl, by omega⟩))), ht⟩) (fun q hq => by cases hq) dX4_refusalOfBoth_68
                · exact absurd c_8 (by decide)
              · have w_7 : (0 : Int) ≤ 1 := w_7
                refine lv_if_ne (tgt := 51) hx hb dX4_refusalOfBoth_45 (by decide) (fun c_11 => ?_) (fun c_11 => ?_)
                · exact absurd c_11 (by decide)
                · refine lv_bipush (v := (-2)) hx hb dX4_refusalOfBoth_48 (by decide) ?_
                  exact W.iret (v := (-2)) hx hb hr (fun t ht hW => ⟨(-2), rfl, Or.inr (Or.inr (Or.inl ⟨rfl, by omega⟩)), ht⟩) (fun q hq => by cases hq) dX4_refusalOfBoth_50
            · exact absurd c_6 (by decide)
          · have w_5 : (p4.toInt < 1 ∨ p5.toInt < p4.toInt ∨ 999 < p5.toInt) := w_5
            refine lv_if_ne (tgt := 37) hx hb dX4_refusalOfBoth_32 (by decide) (fun c_12 => ?_) (fun c_12 => ?_)
            · exact absurd c_12 (by decide)
            · refine lv_iconst (v := (-1)) hx hb dX4_refusalOfBoth_35 (by decide) ?_
              exact W.iret (v := (-1)) hx hb hr (fun t ht hW => ⟨(-1), rfl, Or.inr (Or.inl ⟨rfl, by omega⟩), ht⟩) (fun q hq => by cases hq) dX4_refusalOfBoth_36
      · have w_3 : (p2.toInt < 0 ∨ p3.toInt ≤ p2.toInt ∨ len.toInt < p3.toInt) := w_3
        refine lv_if_eq (tgt := 35) hx hb dX4_refusalOfBoth_22 (by decide) (fun c_13 => ?_) (fun c_13 => ?_)
        · refine lv_iconst (v := (-1)) hx hb dX4_refusalOfBoth_35 (by decide) ?_
          exact W.iret (v := (-1)) hx hb hr (fun t ht hW => ⟨(-1), rfl, Or.inr (Or.inl ⟨rfl, by omega⟩), ht⟩) (fun q hq => by cases hq) dX4_refusalOfBoth_36
        · exact absurd c_13 (by decide)
  · have w_1 : (p0.toInt < 0 ∨ p1.toInt ≤ p0.toInt ∨ len.toInt < p1.toInt) := w_1
    refine lv_if_eq (tgt := 35) hx hb dX4_refusalOfBoth_9 (by decide) (fun c_14 => ?_) (fun c_14 => ?_)
    · refine lv_iconst (v := (-1)) hx hb dX4_refusalOfBoth_35 (by decide) ?_
      exact W.iret (v := (-1)) hx hb hr (fun t ht hW => ⟨(-1), rfl, Or.inr (Or.inl ⟨rfl, by omega⟩), ht⟩) (fun q hq => by cases hq) dX4_refusalOfBoth_36
    · exact absurd c_14 (by decide)

set_option maxHeartbeats 4000000 in
set_option maxRecDepth 100000 in
theorem c_X4_gatherHeavyOfBoth (l : Launch) (dC : Nat → ClassId) (dI : Nat → Nat → Nat) (m_ : Nat) (q_row : Nat) (q_t : Nat) (t_ : Nat) (h0 : Nat) (k0 : Nat) (w_ : Nat) (z_ : Nat) (slots : Int32) (old : Int32) (q_joined : Nat) (q_from : Nat) (q_to : Nat) (q_size : Nat) (q_lossOf : Nat) (q_lessBy : Nat) (q_value : Nat) (q_number : Nat) (nodes : Int32) (here : Int32) (q_cell : Nat) (cyI : ClassId) (len : Int32) (f : Nat → Int32) (ff : Nat → Int32) (ft : Nat → Int32) (fs : Nat → Int32) (fo : Nat → Int32) (uv : Nat → Int32) (un : Nat → Int32) (a_v : Nat) (a_n : Nat) (cyI : ClassId) (vs : Int32) (lo : Int32) (le : Int32) (fv : Nat → Int32) (fn : Nat → Int32) (kv : Nat) (kn : Nat) (sb : Int32) (lb : Int32) (eb : Int32) (gb : Nat → Int32) (nb : Nat → Int32) (p0 : Int32) (p1 : Int32) (p2 : Int32) (p3 : Int32) (p4 : Int32) (p5 : Int32) (sz : Nat) (b0 : 0 ≤ nodes.toInt) (c0 : nodes.toInt ≤ 319) (s0 : sixes fs) (d0 : 0 ≤ p0.toInt) (d1 : p1.toInt ≤ 160) (d2 : 0 ≤ p2.toInt) (d3 : p3.toInt ≤ 160) : Met l yX4_gatherHeavyOfBoth wsX4_gatherHeavyOfBoth ({ frames := 4, cells := 0, slots := 0, locals := 180 }) (va_Pc [.ref m_, .ref q_t, .int p0, .int p1, .int p2, .int p3, .int p4, .int p5] (fun U => U.heap.size = sz ∧ va_P (dC, dI) vwCl [kx_4 m_ q_row q_t t_ h0 k0 w_ z_ slots old, kx_0 q_row q_cell len, kx_a q_cell cyI 160 f, kx_2 q_t q_row q_joined q_from q_to q_size q_lossOf q_lessBy q_value q_number nodes here, kx_a q_from cyI 319 ff, kx_a q_to cyI 319 ft, kx_a q_size cyI 319 fs, kx_a q_lossOf cyI 319 fo, kx_a q_value cyI 1914 uv, kx_a q_number cyI 1914 un, kx_3 h0 a_v a_n vs lo le, kx_a a_v cyI 12 fv, kx_a a_n cyI 12 fn, kx_3 k0 kv kn sb lb eb, kx_a kv cyI 12 gb, kx_a kn cyI 12 nb] U.heap ∧ va_K (dC, dI) vwCl [(cyI, .int)] U ∧ va_D (fun _ => True) [kx_4 m_ q_row q_t t_ h0 k0 w_ z_ slots old, kx_0 q_row q_cell len, kx_a q_cell cyI 160 f, kx_2 q_t q_row q_joined q_from q_to q_size q_lossOf q_lessBy q_value q_number nodes here, kx_a q_from cyI 319 ff, kx_a q_to cyI 319 ft, kx_a q_size cyI 319 fs, kx_a q_lossOf cyI 319 fo, kx_a q_value cyI 1914 uv, kx_a q_number cyI 1914 un, kx_3 h0 a_v a_n vs lo le, kx_a a_v cyI 12 fv, kx_a a_n cyI 12 fn, kx_3 k0 kv kn sb lb eb, kx_a kv cyI 12 gb, kx_a kn cyI 12 nb] ∧ va_Nw (.methodLinkNest RX3 42 yX4_isHeavy RX4) U)) (va_Qv (fun u : Int32 × Int32 × Int32 × (Nat → Int32) × (Nat → Int32) × Int32 × Int32 × Int32 × (Nat → Int32) × (Nat → Int32) => 0 ≤ u.1.toInt ∧ u.1.toInt ≤ 12) (fun (u : Int32 × Int32 × Int32 × (Nat → Int32) × (Nat → Int32) × Int32 × Int32 × Int32 × (Nat → Int32) × (Nat → Int32)) (t : State) => va_P (dC, dI) vwCl [kx_4 m_ q_row q_t t_ h0 k0 w_ z_ slots old, kx_0 q_row q_cell len, kx_a q_cell cyI 160 f, kx_2 q_t q_row q_joined q_from q_to q_size q_lossOf q_lessBy q_value q_number nodes here, kx_a q_from cyI 319 ff, kx_a q_to cyI 319 ft, kx_a q_size cyI 319 fs, kx_a q_lossOf cyI 319 fo, kx_a q_value cyI 1914 uv, kx_a q_number cyI 1914 un, kx_3 h0 a_v a_n u.1 u.2.1 u.2.2.1, kx_a a_v cyI 12 u.2.2.2.1, kx_a a_n cyI 12 u.2.2.2.2.1, kx_3 k0 kv kn u.2.2.2.2.2.1 u.2.2.2.2.2.2.1 u.2.2.2.2.2.2.2.1, kx_a kv cyI 12 u.2.2.2.2.2.2.2.2.1, kx_a kn cyI 12 u.2.2.2.2.2.2.2.2.2] t.heap ∧ va_K (dC, dI) vwCl [(cyI, .int)] t ∧ va_D (va_A [kx_4 m_ q_row q_t t_ h0 k0 w_ z_ slots old, kx_0 q_row q_cell len, kx_a q_cell cyI 160 f, kx_2 q_t q_row q_joined q_from q_to q_size q_lossOf q_lessBy q_value q_number nodes here, kx_a q_from cyI 319 ff, kx_a q_to cyI 319 ft, kx_a q_size cyI 319 fs, kx_a q_lossOf cyI 319 fo, kx_a q_value cyI 1914 uv, kx_a q_number cyI 1914 un, kx_3 h0 a_v a_n vs lo le, kx_a a_v cyI 12 fv, kx_a a_n cyI 12 fn, kx_3 k0 kv kn sb lb eb, kx_a kv cyI 12 gb, kx_a kn cyI 12 nb] sz) [kx_4 m_ q_row q_t t_ h0 k0 w_ z_ slots old, kx_0 q_row q_cell len, kx_a q_cell cyI 160 f, kx_2 q_t q_row q_joined q_from q_to q_size q_lossOf q_lessBy q_value q_number nodes here, kx_a q_from cyI 319 ff, kx_a q_to cyI 319 ft, kx_a q_size cyI 319 fs, kx_a q_lossOf cyI 319 fo, kx_a q_value cyI 1914 uv, kx_a q_number cyI 1914 un, kx_3 h0 a_v a_n u.1 u.2.1 u.2.2.1, kx_a a_v cyI 12 u.2.2.2.1, kx_a a_n cyI 12 u.2.2.2.2.1, kx_3 k0 kv kn u.2.2.2.2.2.1 u.2.2.2.2.2.2.1 u.2.2.2.2.2.2.2.1, kx_a kv cyI 12 u.2.2.2.2.2.2.2.2.1, kx_a kn cyI 12 u.2.2.2.2.2.2.2.2.2]) (va_A [kx_4 m_ q_row q_t t_ h0 k0 w_ z_ slots old, kx_0 q_row q_cell len, kx_a q_cell cyI 160 f, kx_2 q_t q_row q_joined q_from q_to q_size q_lossOf q_lessBy q_value q_number nodes here, kx_a q_from cyI 319 ff, kx_a q_to cyI 319 ft, kx_a q_size cyI 319 fs, kx_a q_lossOf cyI 319 fo, kx_a q_value cyI 1914 uv, kx_a q_number cyI 1914 un, kx_3 h0 a_v a_n vs lo le, kx_a a_v cyI 12 fv, kx_a a_n cyI 12 fn, kx_3 k0 kv kn sb lb eb, kx_a kv cyI 12 gb, kx_a kn cyI 12 nb] sz)) 0 0 (va_A [kx_4 m_ q_row q_t t_ h0 k0 w_ z_ slots old, kx_0 q_row q_cell len, kx_a q_cell cyI 160 f, kx_2 q_t q_row q_joined q_from q_to q_size q_lossOf q_lessBy q_value q_number nodes here, kx_a q_from cyI 319 ff, kx_a q_to cyI 319 ft, kx_a q_size cyI 319 fs, kx_a q_lossOf cyI 319 fo, kx_a q_value cyI 1914 uv, kx_a q_number cyI 1914 un, kx_3 h0 a_v a_n vs lo le, kx_a a_v cyI 12 fv, kx_a a_n cyI 12 fn, kx_3 k0 kv kn sb lb eb, kx_a kv cyI 12 gb, kx_a kn cyI 12 nb] sz) := by
  refine Met.ofW (cc := cX4_gatherHeavyOfBoth) (maxL := 10) (ret := none) (by decide) rfl ?_
  intro p e s m args below meth c s₁ B hml hv
  obtain ⟨rfl, hsz, hP, hK, hD0, hN0⟩ := hv
  have hx := B.exec
  have hb := B.bytes
  have hr := B.returns
  have hts := atoms_spec (ws := wsX4_gatherHeavyOfBoth) B.pre
  have hown : s.vm.findClass RX4 = some m.cls := findClass_of_methodNamed B.named
  have hlocks := B.notSynchronized
  subst hsz
  have hD := hD0.self (sz := s.heap.size)
  generalize hAe : va_A [kx_4 m_ q_row q_t t_ h0 k0 w_ z_ slots old, kx_0 q_row q_cell len, kx_a q_cell cyI 160 f, kx_2 q_t q_row q_joined q_from q_to q_size q_lossOf q_lessBy q_value q_number nodes here, kx_a q_from cyI 319 ff, kx_a q_to cyI 319 ft, kx_a q_size cyI 319 fs, kx_a q_lossOf cyI 319 fo, kx_a q_value cyI 1914 uv, kx_a q_number cyI 1914 un, kx_3 h0 a_v a_n vs lo le, kx_a a_v cyI 12 fv, kx_a a_n cyI 12 fn, kx_3 k0 kv kn sb lb eb, kx_a kv cyI 12 gb, kx_a kn cyI 12 nb] s.heap.size = A at hD ⊢
  have hA : ∀ q : Nat, s.heap.size ≤ q → A q := fun q h => by rw [← hAe]; exact Or.inr h
  have hS : va_S A s.heap s.heap [] := va_S.rf
  have hP : va_P (dC, dI) vwCl [kx_4 m_ q_row q_t t_ h0 k0 w_ z_ slots old, kx_0 q_row q_cell len, kx_a q_cell cyI 160 f, kx_2 q_t q_row q_joined q_from q_to q_size q_lossOf q_lessBy q_value q_number nodes here, kx_a q_from cyI 319 ff, kx_a q_to cyI 319 ft, kx_a q_size cyI 319 fs, kx_a q_lossOf cyI 319 fo, kx_a q_value cyI 1914 uv, kx_a q_number cyI 1914 un, kx_3 h0 a_v a_n vs lo le, kx_a a_v cyI 12 fv, kx_a a_n cyI 12 fn, kx_3 k0 kv kn sb lb eb, kx_a kv cyI 12 gb, kx_a kn cyI 12 nb] s.heap := hP
  have hl := lv_entry ([.ref m_, .ref q_t, .int p0, .int p1, .int p2, .int p3, .int p4, .int p5]) (n := 10) (Nat.le_of_ble_eq_true rfl)
  rw [lg_entry_eq]
  generalize (lg_sl ([.ref m_, .ref q_t, .int p0, .int p1, .int p2, .int p3, .int p4, .int p5]) ++ List.replicate (10 - (lg_sl ([.ref m_, .ref q_t, .int p0, .int p1, .int p2, .int p3, .int p4, .int p5])).length) Slot.unset).toArray = ls at hl ⊢
  have hl : lv_has ls 10 [(0, .ref m_), (1, .ref q_t), (2, .int p0), (3, .int p1), (4, .int p2), (5, .int p3), (6, .int p4), (7, .int p5)] := hl
  have hf_35 := hts (.fieldLink RX4 35 "MajorityIndex" "votes" "LMajorityIndex$Votes;") (List.mem_of_getElem? (i := 1) rfl)
  have hi_4 : ∀ w ∈ u_ws RX4 TX4 9, w ∈ wsX4_gatherHeavyOfBoth := fun w h => List.mem_cons_of_mem _ (List.mem_append_left _ (List.mem_append_left _ (List.mem_append_left _ (List.mem_append_right _ h))))
  have hm_91 := hts (.methodLink RX4 91 Lib.Math.min.name) (List.mem_of_getElem? (i := 2) rfl)
  have hms_min := hts (.static Lib.Math.min.name) (List.mem_of_getElem? (i := 3) rfl)
  have hz_math := hts (.initialized "java/lang/Math") (List.mem_of_getElem? (i := 4) rfl)
  have hmc_min := hts (.code Lib.Math.min.name Lib.Math.min.code 2 (some .int)) (List.mem_of_getElem? (i := 5) rfl)
  have hf_39 := hts (.fieldLink RX4 39 "MajorityIndex" "otherVotes" "LMajorityIndex$Votes;") (List.mem_of_getElem? (i := 6) rfl)
  have hm_96 := hts (.methodLink RX4 96 Lib.Math.max.name) (List.mem_of_getElem? (i := 7) rfl)
  have hms_max := hts (.static Lib.Math.max.name) (List.mem_of_getElem? (i := 8) rfl)
  have hmc_max := hts (.code Lib.Math.max.name Lib.Math.max.code 2 (some .int)) (List.mem_of_getElem? (i := 9) rfl)
  have hf_49 := hts (.fieldLink RX4 49 "MajorityIndex" "slotsNow" "I") (List.mem_of_getElem? (i := 10) rfl)
  have hf_174 := hts (.fieldLink RX4 174 "MajorityIndex$Votes" "size" "I") (List.mem_of_getElem? (i := 11) rfl)
  have hi_3 : ∀ w ∈ u_ws RX3 TX3 5, w ∈ wsX4_gatherHeavyOfBoth := fun w h => List.mem_cons_of_mem _ (List.mem_append_left _ (List.mem_append_left _ (List.mem_append_right _ h)))
  have hf_133 := hts (.fieldLink RX4 133 "MajorityIndex$Votes" "value" "[I") (List.mem_of_getElem? (i := 12) rfl)
  have hf_136 := hts (.fieldLink RX4 136 "MajorityIndex$Votes" "number" "[I") (List.mem_of_getElem? (i := 13) rfl)
  have hf_12 := hts (.fieldLink RX4 12 "MajorityIndex" "row" "LMajorityIndex$Row;") (List.mem_of_getElem? (i := 14) rfl)
  refine lv_aload_n hx hb dX4_gatherHeavyOfBoth_0 rfl (lv_at hl 1 rfl) ?_
  refine lv_aload_n hx hb dX4_gatherHeavyOfBoth_1 rfl (lv_at hl 0 rfl) ?_
  refine va_get (D := (dC, dI)) (ci := 4) (v := .ref h0) (C := RX4) (T := TX4) (N := 9) hx hb hts hi_4 hown hK hP 0 rfl rfl 3 (by decide) hf_35 (fun _ h9 => h9) rfl dX4_gatherHeavyOfBoth_2 ?_
  refine lv_iload_n hx hb dX4_gatherHeavyOfBoth_5 rfl (lv_at hl 2 rfl) ?_
  refine lv_iload hx hb dX4_gatherHeavyOfBoth_6 (lv_at hl 4 rfl) ?_
  refine va_mmin hx hb (hml.trans hl.1.symm) hown hm_91 hms_min hz_math hmc_min (Nat.le_of_ble_eq_true rfl) (Nat.le_of_ble_eq_true rfl) (Nat.le_of_ble_eq_true rfl) (Nat.le_of_ble_eq_true rfl) dX4_gatherHeavyOfBoth_8 ?_
  refine lv_topi (fun y_1 ey_1 => ?_)
  have i_2 : (p0.toInt ≤ p2.toInt ∧ y_1.toInt = p0.toInt) ∨ (p2.toInt < p0.toInt ∧ y_1.toInt = p2.toInt) := ki_min ey_1 rfl rfl
  refine lv_iload_n hx hb dX4_gatherHeavyOfBoth_11 rfl (lv_at hl 2 rfl) ?_
  refine lv_iload hx hb dX4_gatherHeavyOfBoth_12 (lv_at hl 4 rfl) ?_
  refine lv_icmp_ge (tgt := 21) hx hb dX4_gatherHeavyOfBoth_14 (by decide) (fun c_3 => ?_) (fun c_3 => ?_)
  · have i_3 : p2.toInt ≤ p0.toInt := kc_le c_3
    refine lv_iload hx hb dX4_gatherHeavyOfBoth_21 (lv_at hl 5 rfl) ?_
    obtain ⟨hPc, hDc, hFc, hCc⟩ := kx_pre (wc := [kx_2 q_t q_row q_joined q_from q_to q_size q_lossOf q_lessBy q_value q_number nodes here, kx_a q_from cyI 319 ff, kx_a q_to cyI 319 ft, kx_a q_size cyI 319 fs, kx_a q_lossOf cyI 319 fo, kx_a q_value cyI 1914 uv, kx_a q_number cyI 1914 un, kx_3 h0 a_v a_n vs lo le, kx_a a_v cyI 12 fv, kx_a a_n cyI 12 fn]) hP hD hS hA [3, 4, 5, 6, 7, 8, 9, 10, 11, 12] (by decide) rfl
    have hKc := hK
    refine va_callv (va_runV (As := [.ref h0, .int y_1, .int p3]) (rest := []) ⟨hx, hb, hml, hown, hts⟩ (c_X2_gather l dC dI q_t q_row q_joined q_from q_to q_size q_lossOf q_lessBy q_value q_number nodes here h0 a_v a_n cyI vs lo le fv fn ff ft fs fo uv un y_1 p3 s.heap.size b0 c0 s0) (cwV 3 hts gX4_gatherHeavyOfBoth_X2_gather rfl rfl rfl (by decide +kernel) ⟨Nat.le_of_ble_eq_true rfl, Nat.le_of_ble_eq_true rfl⟩) ⟨fun a U g mk q => by obtain ⟨q0, q1, qP, qK, qD⟩ := q; exact ⟨q0, q1, qP, va_K.moved (u := U) (U := U.calling g mk a) (Vm.Alike.refl U.vm) qK, qD⟩, va_recv hKc hPc (ci := 2) (q0 := 0) rfl rfl, fun U hU hW => ⟨rfl, by rw [hU], by rw [hU]; exact hPc, va_K.moved hW.alike hKc, hDc.weaken (fun _ _ _ _ => trivial)⟩⟩ rfl rfl hl.1 rfl (lv_room (Nat.le_of_ble_eq_true rfl)) dX4_gatherHeavyOfBoth_23 ⟨Nat.le_of_ble_eq_true rfl, Nat.le_of_ble_eq_true rfl⟩) hS (fun q _ h => hFc q h) hFc (fun u t H1 locs ht hvm w_4 hB hz1 hk1 hS => ?_)
    obtain ⟨o_5, o_6, o_7, o_8, o_9⟩ := u
    dsimp only at w_4 hB
    obtain ⟨hP1, hK1, hD1⟩ := hB
    rw [ht] at hP1
    have hK1 := va_K.moved hvm.symm hK1
    obtain ⟨hP, hD⟩ := kx_join (w2 := [kx_4 m_ q_row q_t t_ h0 k0 w_ z_ slots old, kx_0 q_row q_cell len, kx_a q_cell cyI 160 f, kx_3 k0 kv kn sb lb eb, kx_a kv cyI 12 gb, kx_a kn cyI 12 nb, kx_2 q_t q_row q_joined q_from q_to q_size q_lossOf q_lessBy q_value q_number nodes here, kx_a q_from cyI 319 ff, kx_a q_to cyI 319 ft, kx_a q_size cyI 319 fs, kx_a q_lossOf cyI 319 fo, kx_a q_value cyI 1914 uv, kx_a q_number cyI 1914 un, kx_3 h0 a_v a_n o_5 o_6 o_7, kx_a a_v cyI 12 o_8, kx_a a_n cyI 12 o_9]) hP hD hP1 hD1 hk1 hFc [3, 4, 5, 6, 7, 8, 9, 10, 11, 12] [0, 1, 2, 13, 14, 15] hCc rfl (by decide) (by decide)
    clear hP1 hD1 hK1 hk1 hz1 hFc hDc hPc hKc hCc
    generalize H1 = H at hP hS ⊢
    have w_4 : 0 ≤ o_5.toInt ∧ o_5.toInt ≤ 12 := w_4
    refine lv_aload_n hx hb dX4_gatherHeavyOfBoth_26 rfl (lv_at hl 1 rfl) ?_
    refine lv_aload_n hx hb dX4_gatherHeavyOfBoth_27 rfl (lv_at hl 0 rfl) ?_
    refine va_get (D := (dC, dI)) (ci := 4) (v := .ref k0) (C := RX4) (T := TX4) (N := 9) hx hb hts hi_4 hown hK hP 0 rfl rfl 4 (by decide) hf_39 (fun _ h9 => h9) rfl dX4_gatherHeavyOfBoth_28 ?_
    refine lv_iload_n hx hb dX4_gatherHeavyOfBoth_31 rfl (lv_at hl 2 rfl) ?_
    refine lv_iload hx hb dX4_gatherHeavyOfBoth_32 (lv_at hl 4 rfl) ?_
    refine va_mmax hx hb (hml.trans hl.1.symm) hown hm_96 hms_max hz_math hmc_max (Nat.le_of_ble_eq_true rfl) (Nat.le_of_ble_eq_true rfl) (Nat.le_of_ble_eq_true rfl) (Nat.le_of_ble_eq_true rfl) dX4_gatherHeavyOfBoth_34 ?_
    refine lv_topi (fun y_10 ey_10 => ?_)
    have i_11 : (p0.toInt ≤ p2.toInt ∧ y_10.toInt = p2.toInt) ∨ (p2.toInt < p0.toInt ∧ y_10.toInt = p0.toInt) := ki_max ey_10 rfl rfl
    refine lv_iload_n hx hb dX4_gatherHeavyOfBoth_37 rfl (lv_at hl 2 rfl) ?_
    refine lv_iload hx hb dX4_gatherHeavyOfBoth_38 (lv_at hl 4 rfl) ?_
    refine lv_icmp_ge (tgt := 48) hx hb dX4_gatherHeavyOfBoth_40 (by decide) (fun c_12 => ?_) (fun c_12 => ?_)
    · have i_12 : p2.toInt ≤ p0.toInt := kc_le c_12
      refine lv_iload_n hx hb dX4_gatherHeavyOfBoth_48 rfl (lv_at hl 3 rfl) ?_
      obtain ⟨hPc, hDc, hFc, hCc⟩ := kx_pre (wc := [kx_2 q_t q_row q_joined q_from q_to q_size q_lossOf q_lessBy q_value q_number nodes here, kx_a q_from cyI 319 ff, kx_a q_to cyI 319 ft, kx_a q_size cyI 319 fs, kx_a q_lossOf cyI 319 fo, kx_a q_value cyI 1914 uv, kx_a q_number cyI 1914 un, kx_3 k0 kv kn sb lb eb, kx_a kv cyI 12 gb, kx_a kn cyI 12 nb]) hP hD hS hA [6, 7, 8, 9, 10, 11, 12, 3, 4, 5] (by decide) rfl
      have hKc := hK
      refine va_callv (va_runV (As := [.ref k0, .int y_10, .int p1]) (rest := []) ⟨hx, hb, hml, hown, hts⟩ (c_X2_gather l dC dI q_t q_row q_joined q_from q_to q_size q_lossOf q_lessBy q_value q_number nodes here k0 kv kn cyI sb lb eb gb nb ff ft fs fo uv un y_10 p1 H.size b0 c0 s0) (cwV 3 hts gX4_gatherHeavyOfBoth_X2_gather rfl rfl rfl (by decide +kernel) ⟨Nat.le_of_ble_eq_true rfl, Nat.le_of_ble_eq_true rfl⟩) ⟨fun a U g mk q => by obtain ⟨q0, q1, qP, qK, qD⟩ := q; exact ⟨q0, q1, qP, va_K.moved (u := U) (U := U.calling g mk a) (Vm.Alike.refl U.vm) qK, qD⟩, va_recv hKc hPc (ci := 2) (q0 := 0) rfl rfl, fun U hU hW => ⟨rfl, by rw [hU], by rw [hU]; exact hPc, va_K.moved hW.alike hKc, hDc.weaken (fun _ _ _ _ => trivial)⟩⟩ rfl rfl hl.1 rfl (lv_room (Nat.le_of_ble_eq_true rfl)) dX4_gatherHeavyOfBoth_49 ⟨Nat.le_of_ble_eq_true rfl, Nat.le_of_ble_eq_true rfl⟩) hS (fun q _ h => hFc q h) hFc (fun u t H1 locs ht hvm w_13 hB hz1 hk1 hS => ?_)
      obtain ⟨o_14, o_15, o_16, o_17, o_18⟩ := u
      dsimp only at w_13 hB
      obtain ⟨hP1, hK1, hD1⟩ := hB
      rw [ht] at hP1
      have hK1 := va_K.moved hvm.symm hK1
      obtain ⟨hP, hD⟩ := kx_join (w2 := [kx_4 m_ q_row q_t t_ h0 k0 w_ z_ slots old, kx_0 q_row q_cell len, kx_a q_cell cyI 160 f, kx_3 h0 a_v a_n o_5 o_6 o_7, kx_a a_v cyI 12 o_8, kx_a a_n cyI 12 o_9, kx_2 q_t q_row q_joined q_from q_to q_size q_lossOf q_lessBy q_value q_number nodes here, kx_a q_from cyI 319 ff, kx_a q_to cyI 319 ft, kx_a q_size cyI 319 fs, kx_a q_lossOf cyI 319 fo, kx_a q_value cyI 1914 uv, kx_a q_number cyI 1914 un, kx_3 k0 kv kn o_14 o_15 o_16, kx_a kv cyI 12 o_17, kx_a kn cyI 12 o_18]) hP hD hP1 hD1 hk1 hFc [6, 7, 8, 9, 10, 11, 12, 3, 4, 5] [0, 1, 2, 13, 14, 15] hCc rfl (by decide) (by decide)
      clear hP1 hD1 hK1 hk1 hz1 hFc hDc hPc hKc hCc
      generalize H1 = H at hP hS ⊢
      have w_13 : 0 ≤ o_14.toInt ∧ o_14.toInt ≤ 12 := w_13
      refine lv_aload_n hx hb dX4_gatherHeavyOfBoth_52 rfl (lv_at hl 0 rfl) ?_
      refine va_get (D := (dC, dI)) (ci := 4) (v := .ref h0) (C := RX4) (T := TX4) (N := 9) hx hb hts hi_4 hown hK hP 0 rfl rfl 3 (by decide) hf_35 (fun _ h9 => h9) rfl dX4_gatherHeavyOfBoth_53 ?_
      refine lv_aload_n hx hb dX4_gatherHeavyOfBoth_56 rfl (lv_at hl 0 rfl) ?_
      refine va_get (D := (dC, dI)) (ci := 4) (v := .ref k0) (C := RX4) (T := TX4) (N := 9) hx hb hts hi_4 hown hK hP 0 rfl rfl 4 (by decide) hf_39 (fun _ h9 => h9) rfl dX4_gatherHeavyOfBoth_57 ?_
      obtain ⟨hPc, hDc, hFc, hCc⟩ := kx_pre (wc := [kx_3 h0 a_v a_n o_5 o_6 o_7, kx_a a_v cyI 12 o_8, kx_a a_n cyI 12 o_9, kx_3 k0 kv kn o_14 o_15 o_16, kx_a kv cyI 12 o_17, kx_a kn cyI 12 o_18]) hP hD hS hA [3, 4, 5, 13, 14, 15] (by decide) rfl
      have hKc := hK
      refine va_callv (va_runV (As := [.ref k0]) (rest := []) ⟨hx, hb, hml, hown, hts⟩ (c_X3_join l dC dI h0 a_v a_n cyI o_5 o_6 o_7 o_8 o_9 k0 kv kn o_14 o_15 o_16 o_17 o_18 H.size w_4.1 w_4.2 w_13.1 w_13.2) (cwV 1 hts gX4_gatherHeavyOfBoth_X3_join rfl rfl rfl (by decide +kernel) ⟨Nat.le_of_ble_eq_true rfl, Nat.le_of_ble_eq_true rfl⟩) ⟨fun a U g mk q => by obtain ⟨q0, q1, qP, qK, qD⟩ := q; exact ⟨q0, q1, qP, va_K.moved (u := U) (U := U.calling g mk a) (Vm.Alike.refl U.vm) qK, qD⟩, va_recv hKc hPc (ci := 3) (q0 := 0) rfl rfl, fun U hU hW => ⟨rfl, by rw [hU], by rw [hU]; exact hPc, va_K.moved hW.alike hKc, hDc.weaken (fun _ _ _ _ => trivial)⟩⟩ rfl rfl hl.1 rfl (lv_room (Nat.le_of_ble_eq_true rfl)) dX4_gatherHeavyOfBoth_60 ⟨Nat.le_of_ble_eq_true rfl, Nat.le_of_ble_eq_true rfl⟩) hS (fun q _ h => hFc q h) hFc (fun u t H1 locs ht hvm w_19 hB hz1 hk1 hS => ?_)
      obtain ⟨o_20, o_21, o_22, o_23⟩ := u
      dsimp only at w_19 hB
      obtain ⟨hP1, hK1, hD1⟩ := hB
      rw [ht] at hP1
      have hK1 := va_K.moved hvm.symm hK1
      obtain ⟨hP, hD⟩ := kx_join (w2 := [kx_4 m_ q_row q_t t_ h0 k0 w_ z_ slots old, kx_0 q_row q_cell len, kx_a q_cell cyI 160 f, kx_2 q_t q_row q_joined q_from q_to q_size q_lossOf q_lessBy q_value q_number nodes here, kx_a q_from cyI 319 ff, kx_a q_to cyI 319 ft, kx_a q_size cyI 319 fs, kx_a q_lossOf cyI 319 fo, kx_a q_value cyI 1914 uv, kx_a q_number cyI 1914 un, kx_3 h0 a_v a_n o_20 o_21 o_7, kx_a a_v cyI 12 o_22, kx_a a_n cyI 12 o_23, kx_3 k0 kv kn o_14 o_15 o_16, kx_a kv cyI 12 o_17, kx_a kn cyI 12 o_18]) hP hD hP1 hD1 hk1 hFc [3, 4, 5, 13, 14, 15] [0, 1, 2, 6, 7, 8, 9, 10, 11, 12] hCc rfl (by decide) (by decide)
      clear hP1 hD1 hK1 hk1 hz1 hFc hDc hPc hKc hCc
      generalize H1 = H at hP hS ⊢
      have w_19 : 0 ≤ o_20.toInt ∧ o_20.toInt ≤ 12 := w_19
      refine lv_aload_n hx hb dX4_gatherHeavyOfBoth_63 rfl (lv_at hl 0 rfl) ?_
      refine va_get (D := (dC, dI)) (ci := 4) (v := .ref h0) (C := RX4) (T := TX4) (N := 9) hx hb hts hi_4 hown hK hP 0 rfl rfl 3 (by decide) hf_35 (fun _ h9 => h9) rfl dX4_gatherHeavyOfBoth_64 ?_
      refine lv_aload_n hx hb dX4_gatherHeavyOfBoth_67 rfl (lv_at hl 0 rfl) ?_
      refine va_get (D := (dC, dI)) (ci := 4) (v := .int slots) (C := RX4) (T := TX4) (N := 9) hx hb hts hi_4 hown hK hP 0 rfl rfl 7 (by decide) hf_49 (fun _ h9 => h9) rfl dX4_gatherHeavyOfBoth_68 ?_
      obtain ⟨hPc, hDc, hFc, hCc⟩ := kx_pre (wc := [kx_3 h0 a_v a_n o_20 o_21 o_7, kx_a a_v cyI 12 o_22, kx_a a_n cyI 12 o_23]) hP hD hS hA [10, 11, 12] (by decide) rfl
      have hKc := hK
      refine va_callv (va_runV (As := [.int slots]) (rest := []) ⟨hx, hb, hml, hown, hts⟩ (c_X3_cancel l dC dI h0 a_v a_n cyI o_20 o_21 o_7 o_22 o_23 slots H.size w_19.1 w_19.2) (cwV 1 hts gX4_gatherHeavyOfBoth_X3_cancel rfl rfl rfl (by decide +kernel) ⟨Nat.le_of_ble_eq_true rfl, Nat.le_of_ble_eq_true rfl⟩) ⟨fun a U g mk q => by obtain ⟨q0, q1, qP, qK, qD⟩ := q; exact ⟨q0, q1, qP, va_K.moved (u := U) (U := U.calling g mk a) (Vm.Alike.refl U.vm) qK, qD⟩, va_recv hKc hPc (ci := 3) (q0 := 0) rfl rfl, fun U hU hW => ⟨rfl, by rw [hU], by rw [hU]; exact hPc, va_K.moved hW.alike hKc, hDc.weaken (fun _ _ _ _ => trivial)⟩⟩ rfl rfl hl.1 rfl (lv_room (Nat.le_of_ble_eq_true rfl)) dX4_gatherHeavyOfBoth_71 ⟨Nat.le_of_ble_eq_true rfl, Nat.le_of_ble_eq_true rfl⟩) hS (fun q _ h => hFc q h) hFc (fun u t H1 locs ht hvm w_24 hB hz1 hk1 hS => ?_)
      obtain ⟨o_25, o_26, o_27, o_28, o_29⟩ := u
      dsimp only at w_24 hB
      obtain ⟨hP1, hK1, hD1⟩ := hB
      rw [ht] at hP1
      have hK1 := va_K.moved hvm.symm hK1
      obtain ⟨hP, hD⟩ := kx_join (w2 := [kx_4 m_ q_row q_t t_ h0 k0 w_ z_ slots old, kx_0 q_row q_cell len, kx_a q_cell cyI 160 f, kx_2 q_t q_row q_joined q_from q_to q_size q_lossOf q_lessBy q_value q_number nodes here, kx_a q_from cyI 319 ff, kx_a q_to cyI 319 ft, kx_a q_size cyI 319 fs, kx_a q_lossOf cyI 319 fo, kx_a q_value cyI 1914 uv, kx_a q_number cyI 1914 un, kx_3 k0 kv kn o_14 o_15 o_16, kx_a kv cyI 12 o_17, kx_a kn cyI 12 o_18, kx_3 h0 a_v a_n o_25 o_26 o_27, kx_a a_v cyI 12 o_28, kx_a a_n cyI 12 o_29]) hP hD hP1 hD1 hk1 hFc [10, 11, 12] [0, 1, 2, 3, 4, 5, 6, 7, 8, 9, 13, 14, 15] hCc rfl (by decide) (by decide)
      clear hP1 hD1 hK1 hk1 hz1 hFc hDc hPc hKc hCc
      generalize H1 = H at hP hS ⊢
      have w_24 : 0 ≤ o_25.toInt ∧ o_25.toInt ≤ o_20.toInt := w_24
      refine lv_iconst (v := 0) hx hb dX4_gatherHeavyOfBoth_74 (by decide) ?_
      refine lv_istore (lv' := [(8, .int 0), (0, .ref m_), (1, .ref q_t), (2, .int p0), (3, .int p1), (4, .int p2), (5, .int p3), (6, .int p4), (7, .int p5)]) hx hb dX4_gatherHeavyOfBoth_75 hl (by decide) rfl (fun ls hl => ?_)
      have LP1 : ∀ (n : Nat) (i : Int32) (wn : Nat → Int32), (0 ≤ i.toInt) → (o_25.toInt - i.toInt).toNat < n → ∀ (H : Heap) (locs : List Loc), va_P (dC, dI) vwCl [kx_4 m_ q_row q_t t_ h0 k0 w_ z_ slots old, kx_0 q_row q_cell len, kx_a q_cell cyI 160 f, kx_2 q_t q_row q_joined q_from q_to q_size q_lossOf q_lessBy q_value q_number nodes here, kx_a q_from cyI 319 ff, kx_a q_to cyI 319 ft, kx_a q_size cyI 319 fs, kx_a q_lossOf cyI 319 fo, kx_a q_value cyI 1914 uv, kx_a q_number cyI 1914 un, kx_3 k0 kv kn o_14 o_15 o_16, kx_a kv cyI 12 o_17, kx_a kn cyI 12 o_18, kx_3 h0 a_v a_n o_25 o_26 o_27, kx_a a_v cyI 12 o_28, kx_a a_n cyI 12 wn] H → va_D A [kx_4 m_ q_row q_t t_ h0 k0 w_ z_ slots old, kx_0 q_row q_cell len, kx_a q_cell cyI 160 f, kx_2 q_t q_row q_joined q_from q_to q_size q_lossOf q_lessBy q_value q_number nodes here, kx_a q_from cyI 319 ff, kx_a q_to cyI 319 ft, kx_a q_size cyI 319 fs, kx_a q_lossOf cyI 319 fo, kx_a q_value cyI 1914 uv, kx_a q_number cyI 1914 un, kx_3 k0 kv kn o_14 o_15 o_16, kx_a kv cyI 12 o_17, kx_a kn cyI 12 o_18, kx_3 h0 a_v a_n o_25 o_26 o_27, kx_a a_v cyI 12 o_28, kx_a a_n cyI 12 wn] → va_S A s.heap H locs → ∀ (ls : Array Slot), lv_has ls 10 [(8, .int i), (0, .ref m_), (1, .ref q_t), (2, .int p0), (3, .int p1), (4, .int p2), (5, .int p3), (6, .int p4), (7, .int p5)] → W p l e (headSpec wsX4_gatherHeavyOfBoth ({ frames := 4, cells := 0, slots := 0, locals := 180 })).room s m ([.ref m_, .ref q_t, .int p0, .int p1, .int p2, .int p3, .int p4, .int p5] : List Value).toArray below meth c H locs 0 0 (MQ below (va_Qv (fun u : Int32 × Int32 × Int32 × (Nat → Int32) × (Nat → Int32) × Int32 × Int32 × Int32 × (Nat → Int32) × (Nat → Int32) => 0 ≤ u.1.toInt ∧ u.1.toInt ≤ 12) (fun (u : Int32 × Int32 × Int32 × (Nat → Int32) × (Nat → Int32) × Int32 × Int32 × Int32 × (Nat → Int32) × (Nat → Int32)) (t : State) => va_P (dC, dI) vwCl [kx_4 m_ q_row q_t t_ h0 k0 w_ z_ slots old, kx_0 q_row q_cell len, kx_a q_cell cyI 160 f, kx_2 q_t q_row q_joined q_from q_to q_size q_lossOf q_lessBy q_value q_number nodes here, kx_a q_from cyI 319 ff, kx_a q_to cyI 319 ft, kx_a q_size cyI 319 fs, kx_a q_lossOf cyI 319 fo, kx_a q_value cyI 1914 uv, kx_a q_number cyI 1914 un, kx_3 h0 a_v a_n u.1 u.2.1 u.2.2.1, kx_a a_v cyI 12 u.2.2.2.1, kx_a a_n cyI 12 u.2.2.2.2.1, kx_3 k0 kv kn u.2.2.2.2.2.1 u.2.2.2.2.2.2.1 u.2.2.2.2.2.2.2.1, kx_a kv cyI 12 u.2.2.2.2.2.2.2.2.1, kx_a kn cyI 12 u.2.2.2.2.2.2.2.2.2] t.heap ∧ va_K (dC, dI) vwCl [(cyI, .int)] t ∧ va_D A [kx_4 m_ q_row q_t t_ h0 k0 w_ z_ slots old, kx_0 q_row q_cell len, kx_a q_cell cyI 160 f, kx_2 q_t q_row q_joined q_from q_to q_size q_lossOf q_lessBy q_value q_number nodes here, kx_a q_from cyI 319 ff, kx_a q_to cyI 319 ft, kx_a q_size cyI 319 fs, kx_a q_lossOf cyI 319 fo, kx_a q_value cyI 1914 uv, kx_a q_number cyI 1914 un, kx_3 h0 a_v a_n u.1 u.2.1 u.2.2.1, kx_a a_v cyI 12 u.2.2.2.1, kx_a a_n cyI 12 u.2.2.2.2.1, kx_3 k0 kv kn u.2.2.2.2.2.1 u.2.2.2.2.2.2.1 u.2.2.2.2.2.2.2.1, kx_a kv cyI 12 u.2.2.2.2.2.2.2.2.1, kx_a kn cyI 12 u.2.2.2.2.2.2.2.2.2]) A) ([.ref m_, .ref q_t, .int p0, .int p1, .int p2, .int p3, .int p4, .int p5] : List Value).toArray s 0 0 A) (F0 m 77 ls []) := by
        intro n
        induction n with
        | zero => intro i wn LP1_h0 hn; exact absurd hn (Nat.not_lt_zero _)
        | succ n ih1 =>
          intro i wn LP1_h0 hn1 H locs hP hD hS ls hl
          refine lv_iload hx hb dX4_gatherHeavyOfBoth_77 (lv_at hl 0 rfl) ?_
          refine lv_aload_n hx hb dX4_gatherHeavyOfBoth_79 rfl (lv_at hl 1 rfl) ?_
          refine va_get (D := (dC, dI)) (ci := 4) (v := .ref h0) (C := RX4) (T := TX4) (N := 9) hx hb hts hi_4 hown hK hP 0 rfl rfl 3 (by decide) hf_35 (fun _ h9 => h9) rfl dX4_gatherHeavyOfBoth_80 ?_
          refine va_get (D := (dC, dI)) (ci := 3) (v := .int o_25) (C := RX3) (T := TX3) (N := 5) hx hb hts hi_3 hown hK hP 13 rfl rfl 2 (by decide) hf_174 (fun _ h9 => h9) rfl dX4_gatherHeavyOfBoth_83 ?_
          refine lv_icmp_ge (tgt := 142) hx hb dX4_gatherHeavyOfBoth_86 (by decide) (fun c_30 => ?_) (fun c_30 => ?_)
          · have i_30 : o_25.toInt ≤ i.toInt := kc_le c_30
            refine lv_aload_n hx hb dX4_gatherHeavyOfBoth_142 rfl (lv_at hl 1 rfl) ?_
            refine va_get (D := (dC, dI)) (ci := 4) (v := .ref h0) (C := RX4) (T := TX4) (N := 9) hx hb hts hi_4 hown hK hP 0 rfl rfl 3 (by decide) hf_35 (fun _ h9 => h9) rfl dX4_gatherHeavyOfBoth_143 ?_
            refine lv_iload_n hx hb dX4_gatherHeavyOfBoth_146 rfl (lv_at hl 4 rfl) ?_
            refine lv_iload_n hx hb dX4_gatherHeavyOfBoth_147 rfl (lv_at hl 3 rfl) ?_
            refine lv_isub hx hb dX4_gatherHeavyOfBoth_148 ?_
            refine lv_topi (fun y_31 ey_31 => ?_)
            refine lv_iload hx hb dX4_gatherHeavyOfBoth_149 (lv_at hl 6 rfl) ?_
            refine lv_iadd hx hb dX4_gatherHeavyOfBoth_151 ?_
            refine lv_topi (fun y_32 ey_32 => ?_)
            refine lv_iload hx hb dX4_gatherHeavyOfBoth_152 (lv_at hl 5 rfl) ?_
            refine lv_isub hx hb dX4_gatherHeavyOfBoth_154 ?_
            refine lv_topi (fun y_33 ey_33 => ?_)
            refine lv_iload hx hb dX4_gatherHeavyOfBoth_155 (lv_at hl 7 rfl) ?_
            refine lv_iload hx hb dX4_gatherHeavyOfBoth_157 (lv_at hl 8 rfl) ?_
            obtain ⟨hPc, hDc, hFc, hCc⟩ := kx_pre (wc := [kx_3 h0 a_v a_n o_25 o_26 o_27, kx_a a_v cyI 12 o_28, kx_a a_n cyI 12 wn]) hP hD hS hA [13, 14, 15] (by decide) rfl
            have hKc := hK
            refine va_callv (va_runV (As := [.int y_33, .int p4, .int p5]) (rest := []) ⟨hx, hb, hml, hown, hts⟩ (c_X3_keepHeavy l dC dI h0 a_v a_n cyI o_25 o_26 o_27 o_28 wn y_33 p4 p5 H.size w_24.1 (om_117 w_19.2 w_24.2)) (cwV 3 hts gX4_gatherHeavyOfBoth_X3_keepHeavy rfl rfl rfl (by decide +kernel) ⟨Nat.le_of_ble_eq_true rfl, Nat.le_of_ble_eq_true rfl⟩) ⟨fun a U g mk q => by obtain ⟨q0, q1, qP, qK, qD, qn0⟩ := q; exact ⟨q0, q1, qP, va_K.moved (u := U) (U := U.calling g mk a) (Vm.Alike.refl U.vm) qK, qD, va_Nw.same (u := U) (U := U.calling g mk a) rfl rfl qn0⟩, va_recv hKc hPc (ci := 3) (q0 := 0) rfl rfl, fun U hU hW => ⟨rfl, by rw [hU], by rw [hU]; exact hPc, va_K.moved hW.alike hKc, hDc.weaken (fun _ _ _ _ => trivial), va_Nw.warmM hW hN0⟩⟩ rfl rfl hl.1 rfl (lv_room (Nat.le_of_ble_eq_true rfl)) dX4_gatherHeavyOfBoth_159 ⟨Nat.le_of_ble_eq_true rfl, Nat.le_of_ble_eq_true rfl⟩) hS (fun q _ h => hFc q h) hFc (fun u t H1 locs ht hvm w_34 hB hz1 hk1 hS => ?_)
            obtain ⟨o_35, o_36, o_37⟩ := u
            dsimp only at w_34 hB
            obtain ⟨hP1, hK1, hD1⟩ := hB
            rw [ht] at hP1
            have hK1 := va_K.moved hvm.symm hK1
            obtain ⟨hP, hD⟩ := kx_join (w2 := [kx_4 m_ q_row q_t t_ h0 k0 w_ z_ slots old, kx_0 q_row q_cell len, kx_a q_cell cyI 160 f, kx_2 q_t q_row q_joined q_from q_to q_size q_lossOf q_lessBy q_value q_number nodes here, kx_a q_from cyI 319 ff, kx_a q_to cyI 319 ft, kx_a q_size cyI 319 fs, kx_a q_lossOf cyI 319 fo, kx_a q_value cyI 1914 uv, kx_a q_number cyI 1914 un, kx_3 k0 kv kn o_14 o_15 o_16, kx_a kv cyI 12 o_17, kx_a kn cyI 12 o_18, kx_3 h0 a_v a_n o_35 o_26 o_27, kx_a a_v cyI 12 o_36, kx_a a_n cyI 12 o_37]) hP hD hP1 hD1 hk1 hFc [13, 14, 15] [0, 1, 2, 3, 4, 5, 6, 7, 8, 9, 10, 11, 12] hCc rfl (by decide) (by decide)
            clear hP1 hD1 hK1 hk1 hz1 hFc hDc hPc hKc hCc
            generalize H1 = H at hP hS ⊢
            have w_34 : 0 ≤ o_35.toInt ∧ o_35.toInt ≤ o_25.toInt := w_34
            obtain ⟨hP9, hD9⟩ := kx_sub (w2 := [kx_4 m_ q_row q_t t_ h0 k0 w_ z_ slots old, kx_0 q_row q_cell len, kx_a q_cell cyI 160 f, kx_2 q_t q_row q_joined q_from q_to q_size q_lossOf q_lessBy q_value q_number nodes here, kx_a q_from cyI 319 ff, kx_a q_to cyI 319 ft, kx_a q_size cyI 319 fs, kx_a q_lossOf cyI 319 fo, kx_a q_value cyI 1914 uv, kx_a q_number cyI 1914 un, kx_3 h0 a_v a_n o_35 o_26 o_27, kx_a a_v cyI 12 o_36, kx_a a_n cyI 12 o_37, kx_3 k0 kv kn o_14 o_15 o_16, kx_a kv cyI 12 o_17, kx_a kn cyI 12 o_18]) hP hD [0, 1, 2, 3, 4, 5, 6, 7, 8, 9, 13, 14, 15, 10, 11, 12] (by decide) rfl
            have hK9 := hK
            exact W.vret hx hb hr (fun t ht hW => ⟨⟨(o_35, o_26, o_27, o_36, o_37, o_14, o_15, o_16, o_17, o_18), rfl, (by (try dsimp only); omega), by rw [ht]; exact hP9, va_K.moved hW.alike hK9, hD9⟩, hS.F ht⟩) hS.2.2 dX4_gatherHeavyOfBoth_162
          · have i_30 : i.toInt < o_25.toInt := kc_nle c_30
            refine lv_aload_n hx hb dX4_gatherHeavyOfBoth_89 rfl (lv_at hl 1 rfl) ?_
            refine va_get (D := (dC, dI)) (ci := 4) (v := .ref h0) (C := RX4) (T := TX4) (N := 9) hx hb hts hi_4 hown hK hP 0 rfl rfl 3 (by decide) hf_35 (fun _ h9 => h9) rfl dX4_gatherHeavyOfBoth_90 ?_
            refine va_get (D := (dC, dI)) (ci := 3) (v := .ref a_v) (C := RX3) (T := TX3) (N := 5) hx hb hts hi_3 hown hK hP 13 rfl rfl 0 (by decide) hf_133 (fun _ h9 => h9) rfl dX4_gatherHeavyOfBoth_93 ?_
            refine lv_iload hx hb dX4_gatherHeavyOfBoth_96 (lv_at hl 0 rfl) ?_
            refine va_iald hx hb hK hP 14 0 rfl rfl (ki_in (om_8 LP1_h0) (om_181 w_19.2 w_24.2 i_30)) dX4_gatherHeavyOfBoth_98 ?_
            refine lv_topi (fun y_38 ey_38 => ?_)
            have j_38 : y_38.toInt = (o_28 i.toNatClampNeg).toInt := congrArg Int32.toInt ey_38
            refine lv_istore (lv' := [(9, .int y_38), (8, .int i), (0, .ref m_), (1, .ref q_t), (2, .int p0), (3, .int p1), (4, .int p2), (5, .int p3), (6, .int p4), (7, .int p5)]) hx hb dX4_gatherHeavyOfBoth_99 hl (by decide) rfl (fun ls hl => ?_)
            refine lv_aload_n hx hb dX4_gatherHeavyOfBoth_101 rfl (lv_at hl 2 rfl) ?_
            refine va_get (D := (dC, dI)) (ci := 4) (v := .ref h0) (C := RX4) (T := TX4) (N := 9) hx hb hts hi_4 hown hK hP 0 rfl rfl 3 (by decide) hf_35 (fun _ h9 => h9) rfl dX4_gatherHeavyOfBoth_102 ?_
            refine va_get (D := (dC, dI)) (ci := 3) (v := .ref a_n) (C := RX3) (T := TX3) (N := 5) hx hb hts hi_3 hown hK hP 13 rfl rfl 1 (by decide) hf_136 (fun _ h9 => h9) rfl dX4_gatherHeavyOfBoth_105 ?_
            refine lv_iload hx hb dX4_gatherHeavyOfBoth_108 (lv_at hl 1 rfl) ?_
            refine lv_aload_n hx hb dX4_gatherHeavyOfBoth_110 rfl (lv_at hl 2 rfl) ?_
            refine va_get (D := (dC, dI)) (ci := 4) (v := .ref q_row) (C := RX4) (T := TX4) (N := 9) hx hb hts hi_4 hown hK hP 0 rfl rfl 0 (by decide) hf_12 (fun _ h9 => h9) rfl dX4_gatherHeavyOfBoth_111 ?_
            refine lv_iload hx hb dX4_gatherHeavyOfBoth_114 (lv_at hl 0 rfl) ?_
            refine lv_iload_n hx hb dX4_gatherHeavyOfBoth_116 rfl (lv_at hl 4 rfl) ?_
            refine lv_iload_n hx hb dX4_gatherHeavyOfBoth_117 rfl (lv_at hl 5 rfl) ?_
            have hPc := hP.sub (ws' := [kx_0 q_row q_cell len, kx_a q_cell cyI 160 f]) [1, 2] rfl
            have hKc := hK
            refine vp_callSi (W.runV (As := [.int y_38, .int p0, .int p1]) (rest := [.int i, .ref a_n]) ⟨hx, hb, hml, hown, hts⟩ (c_X0_oftenIn l dC dI q_row q_cell cyI len f y_38 p0 p1 d0 d1) (cwV 3 hts gX4_gatherHeavyOfBoth_X0_oftenIn rfl rfl rfl (by decide +kernel) ⟨Nat.le_of_ble_eq_true rfl, Nat.le_of_ble_eq_true rfl⟩) ⟨fun a U g mk q => by obtain ⟨q0, qP, qK⟩ := q; exact ⟨q0, qP, va_K.moved (u := U) (U := U.calling g mk a) (Vm.Alike.refl U.vm) qK⟩, va_recv hKc hPc (ci := 0) (q0 := 0) rfl rfl, fun U hU hW => ⟨rfl, by rw [hU]; exact hPc, va_K.moved hW.alike hKc⟩⟩ rfl rfl hl.1 rfl (lv_room (Nat.le_of_ble_eq_true rfl)) dX4_gatherHeavyOfBoth_118 ⟨Nat.le_of_ble_eq_true rfl, Nat.le_of_ble_eq_true rfl⟩) (fun r_39 w_39 => ?_)
            have w_39 : r_39.toInt = (cnt f y_38 p0.toNatClampNeg (p1.toInt - p0.toInt).toNat : Int) := w_39
            refine lv_aload_n hx hb dX4_gatherHeavyOfBoth_121 rfl (lv_at hl 2 rfl) ?_
            refine va_get (D := (dC, dI)) (ci := 4) (v := .ref q_row) (C := RX4) (T := TX4) (N := 9) hx hb hts hi_4 hown hK hP 0 rfl rfl 0 (by decide) hf_12 (fun _ h9 => h9) rfl dX4_gatherHeavyOfBoth_122 ?_
            refine lv_iload hx hb dX4_gatherHeavyOfBoth_125 (lv_at hl 0 rfl) ?_
            refine lv_iload hx hb dX4_gatherHeavyOfBoth_127 (lv_at hl 6 rfl) ?_
            refine lv_iload hx hb dX4_gatherHeavyOfBoth_129 (lv_at hl 7 rfl) ?_
            have hPc := hP.sub (ws' := [kx_0 q_row q_cell len, kx_a q_cell cyI 160 f]) [1, 2] rfl
            have hKc := hK
            refine vp_callSi (W.runV (As := [.int y_38, .int p2, .int p3]) (rest := [.int r_39, .int i, .ref a_n]) ⟨hx, hb, hml, hown, hts⟩ (c_X0_oftenIn l dC dI q_row q_cell cyI len f y_38 p2 p3 d2 d3) (cwV 3 hts gX4_gatherHeavyOfBoth_X0_oftenIn rfl rfl rfl (by decide +kernel) ⟨Nat.le_of_ble_eq_true rfl, Nat.le_of_ble_eq_true rfl⟩) ⟨fun a U g mk q => by obtain ⟨q0, qP, qK⟩ := q; exact ⟨q0, qP, va_K.moved (u := U) (U := U.calling g mk a) (Vm.Alike.refl U.vm) qK⟩, va_recv hKc hPc (ci := 0) (q0 := 0) rfl rfl, fun U hU hW => ⟨rfl, by rw [hU]; exact hPc, va_K.moved hW.alike hKc⟩⟩ rfl rfl hl.1 rfl (lv_room (Nat.le_of_ble_eq_true rfl)) dX4_gatherHeavyOfBoth_131 ⟨Nat.le_of_ble_eq_true rfl, Nat.le_of_ble_eq_true rfl⟩) (fun r_40 w_40 => ?_)
            have w_40 : r_40.toInt = (cnt f y_38 p2.toNatClampNeg (p3.toInt - p2.toInt).toNat : Int) := w_40
            refine lv_iadd hx hb dX4_gatherHeavyOfBoth_134 ?_
            refine lv_topi (fun y_41 ey_41 => ?_)
            refine va_iast hx hb hK hP hD hS 15 0 rfl rfl (ki_in (om_8 LP1_h0) (om_181 w_19.2 w_24.2 i_30)) dX4_gatherHeavyOfBoth_135 (fun H locs hP hD hS => ?_)
            obtain ⟨hP, hD⟩ := kx_re (w2 := [kx_4 m_ q_row q_t t_ h0 k0 w_ z_ slots old, kx_0 q_row q_cell len, kx_a q_cell cyI 160 f, kx_2 q_t q_row q_joined q_from q_to q_size q_lossOf q_lessBy q_value q_number nodes here, kx_a q_from cyI 319 ff, kx_a q_to cyI 319 ft, kx_a q_size cyI 319 fs, kx_a q_lossOf cyI 319 fo, kx_a q_value cyI 1914 uv, kx_a q_number cyI 1914 un, kx_3 k0 kv kn o_14 o_15 o_16, kx_a kv cyI 12 o_17, kx_a kn cyI 12 o_18, kx_3 h0 a_v a_n o_25 o_26 o_27, kx_a a_v cyI 12 o_28, kx_a a_n cyI 12 (upd wn i.toNatClampNeg y_41)]) hP hD rfl
            obtain ⟨x_42, ex_42⟩ : ∃ y : Int32, y = i + 1 := ⟨_, rfl⟩
            have i_42 : x_42.toInt = i.toInt + 1 := ki_add ex_42 rfl rfl (om_10 LP1_h0) (om_182 w_19.2 w_24.2 i_30)
            refine lv_iinc (v := x_42) (lv' := [(8, .int x_42), (9, .int y_38), (0, .ref m_), (1, .ref q_t), (2, .int p0), (3, .int p1), (4, .int p2), (5, .int p3), (6, .int p4), (7, .int p5)]) hx hb dX4_gatherHeavyOfBoth_136 hl (k := 1) rfl (by rw [ex_42]; rfl) (by decide) rfl (fun ls hl => ?_)
            refine lv_goto (tgt := 77) hx hb dX4_gatherHeavyOfBoth_139 (by decide) ?_
            exact ih1 x_42 (upd wn i.toNatClampNeg y_41) (om_31 LP1_h0 i_42) (om_mu hn1 (om_5 i_42) (om_6 i_30)) _ _ hP hD hS ls (lv_sub hl [0, 2, 3, 4, 5, 6, 7, 8, 9] rfl)
      have k_43 : (0 : Int32).toInt = 0 := rfl
      exact LP1 ((o_25.toInt - 0 : Int).toNat + 1) 0 o_29 om_32 (Nat.lt_succ_self _) _ _ hP hD hS ls (lv_sub hl [0, 1, 2, 3, 4, 5, 6, 7, 8] rfl)
    · have i_12 : p0.toInt < p2.toInt := kc_nle c_12
      exfalso; omega
  · have i_3 : p0.toInt < p2.toInt := kc_nle c_3
    refine lv_iload_n hx hb dX4_gatherHeavyOfBoth_17 rfl (lv_at hl 3 rfl) ?_
    refine lv_goto (tgt := 23) hx hb dX4_gatherHeavyOfBoth_18 (by decide) ?_
    obtain ⟨hPc, hDc, hFc, hCc⟩ := kx_pre (wc := [kx_2 q_t q_row q_joined q_from q_to q_size q_lossOf q_lessBy q_value q_number nodes here, kx_a q_from cyI 319 ff, kx_a q_to cyI 319 ft, kx_a q_size cyI 319 fs, kx_a q_lossOf cyI 319 fo, kx_a q_value cyI 1914 uv, kx_a q_number cyI 1914 un, kx_3 h0 a_v a_n vs lo le, kx_a a_v cyI 12 fv, kx_a a_n cyI 12 fn]) hP hD hS hA [3, 4, 5, 6, 7, 8, 9, 10, 11, 12] (by decide) rfl
    have hKc := hK
    refine va_callv (va_runV (As := [.ref h0, .int y_1, .int p1]) (rest := []) ⟨hx, hb, hml, hown, hts⟩ (c_X2_gather l dC dI q_t q_row q_joined q_from q_to q_size q_lossOf q_lessBy q_value q_number nodes here h0 a_v a_n cyI vs lo le fv fn ff ft fs fo uv un y_1 p1 s.heap.size b0 c0 s0) (cwV 3 hts gX4_gatherHeavyOfBoth_X2_gather rfl rfl rfl (by decide +kernel) ⟨Nat.le_of_ble_eq_true rfl, Nat.le_of_ble_eq_true rfl⟩) ⟨fun a U g mk q => by obtain ⟨q0, q1, qP, qK, qD⟩ := q; exact ⟨q0, q1, qP, va_K.moved (u := U) (U := U.calling g mk a) (Vm.Alike.refl U.vm) qK, qD⟩, va_recv hKc hPc (ci := 2) (q0 := 0) rfl rfl, fun U hU hW => ⟨rfl, by rw [hU], by rw [hU]; exact hPc, va_K.moved hW.alike hKc, hDc.weaken (fun _ _ _ _ => trivial)⟩⟩ rfl rfl hl.1 rfl (lv_room (Nat.le_of_ble_eq_true rfl)) dX4_gatherHeavyOfBoth_23 ⟨Nat.le_of_ble_eq_true rfl, Nat.le_of_ble_eq_true rfl⟩) hS (fun q _ h => hFc q h) hFc (fun u t H1 locs ht hvm w_44 hB hz1 hk1 hS => ?_)
    obtain ⟨o_45, o_46, o_47, o_48, o_49⟩ := u
    dsimp only at w_44 hB
    obtain ⟨hP1, hK1, hD1⟩ := hB
    rw [ht] at hP1
    have hK1 := va_K.moved hvm.symm hK1
    obtain ⟨hP, hD⟩ := kx_join (w2 := [kx_4 m_ q_row q_t t_ h0 k0 w_ z_ slots old, kx_0 q_row q_cell len, kx_a q_cell cyI 160 f, kx_3 k0 kv kn sb lb eb, kx_a kv cyI 12 gb, kx_a kn cyI 12 nb, kx_2 q_t q_row q_joined q_from q_to q_size q_lossOf q_lessBy q_value q_number nodes here, kx_a q_from cyI 319 ff, kx_a q_to cyI 319 ft, kx_a q_size cyI 319 fs, kx_a q_lossOf cyI 319 fo, kx_a q_value cyI 1914 uv, kx_a q_number cyI 1914 un, kx_3 h0 a_v a_n o_45 o_46 o_47, kx_a a_v cyI 12 o_48, kx_a a_n cyI 12 o_49]) hP hD hP1 hD1 hk1 hFc [3, 4, 5, 6, 7, 8, 9, 10, 11, 12] [0, 1, 2, 13, 14, 15] hCc rfl (by decide) (by decide)
    clear hP1 hD1 hK1 hk1 hz1 hFc hDc hPc hKc hCc
    generalize H1 = H at hP hS ⊢
    have w_44 : 0 ≤ o_45.toInt ∧ o_45.toInt ≤ 12 := w_44
    refine lv_aload_n hx hb dX4_gatherHeavyOfBoth_26 rfl (lv_at hl 1 rfl) ?_
    refine lv_aload_n hx hb dX4_gatherHeavyOfBoth_27 rfl (lv_at hl 0 rfl) ?_
    refine va_get (D := (dC, dI)) (ci := 4) (v := .ref k0) (C := RX4) (T := TX4) (N := 9) hx hb hts hi_4 hown hK hP 0 rfl rfl 4 (by decide) hf_39 (fun _ h9 => h9) rfl dX4_gatherHeavyOfBoth_28 ?_
    refine lv_iload_n hx hb dX4_gatherHeavyOfBoth_31 rfl (lv_at hl 2 rfl) ?_
    refine lv_iload hx hb dX4_gatherHeavyOfBoth_32 (lv_at hl 4 rfl) ?_
    refine va_mmax hx hb (hml.trans hl.1.symm) hown hm_96 hms_max hz_math hmc_max (Nat.le_of_ble_eq_true rfl) (Nat.le_of_ble_eq_true rfl) (Nat.le_of_ble_eq_true rfl) (Nat.le_of_ble_eq_true rfl) dX4_gatherHeavyOfBoth_34 ?_
    refine lv_topi (fun y_50 ey_50 => ?_)
    have i_51 : (p0.toInt ≤ p2.toInt ∧ y_50.toInt = p2.toInt) ∨ (p2.toInt < p0.toInt ∧ y_50.toInt = p0.toInt) := ki_max ey_50 rfl rfl
    refine lv_iload_n hx hb dX4_gatherHeavyOfBoth_37 rfl (lv_at hl 2 rfl) ?_
    refine lv_iload hx hb dX4_gatherHeavyOfBoth_38 (lv_at hl 4 rfl) ?_
    refine lv_icmp_ge (tgt := 48) hx hb dX4_gatherHeavyOfBoth_40 (by decide) (fun c_52 => ?_) (fun c_52 => ?_)
    · have i_52 : p2.toInt ≤ p0.toInt := kc_le c_52
      exfalso; omega
    · have i_52 : p0.toInt < p2.toInt := kc_nle c_52
      refine lv_iload hx hb dX4_gatherHeavyOfBoth_43 (lv_at hl 5 rfl) ?_
      refine lv_goto (tgt := 49) hx hb dX4_gatherHeavyOfBoth_45 (by decide) ?_
      obtain ⟨hPc, hDc, hFc, hCc⟩ := kx_pre (wc := [kx_2 q_t q_row q_joined q_from q_to q_size q_lossOf q_lessBy q_value q_number nodes here, kx_a q_from cyI 319 ff, kx_a q_to cyI 319 ft, kx_a q_size cyI 319 fs, kx_a q_lossOf cyI 319 fo, kx_a q_value cyI 1914 uv, kx_a q_number cyI 1914 un, kx_3 k0 kv kn sb lb eb, kx_a kv cyI 12 gb, kx_a kn cyI 12 nb]) hP hD hS hA [6, 7, 8, 9, 10, 11, 12, 3, 4, 5] (by decide) rfl
      have hKc := hK
      refine va_callv (va_runV (As := [.ref k0, .int y_50, .int p3]) (rest := []) ⟨hx, hb, hml, hown, hts⟩ (c_X2_gather l dC dI q_t q_row q_joined q_from q_to q_size q_lossOf q_lessBy q_value q_number nodes here k0 kv kn cyI sb lb eb gb nb ff ft fs fo uv un y_50 p3 H.size b0 c0 s0) (cwV 3 hts gX4_gatherHeavyOfBoth_X2_gather rfl rfl rfl (by decide +kernel) ⟨Nat.le_of_ble_eq_true rfl, Nat.le_of_ble_eq_true rfl⟩) ⟨fun a U g mk q => by obtain ⟨q0, q1, qP, qK, qD⟩ := q; exact ⟨q0, q1, qP, va_K.moved (u := U) (U := U.calling g mk a) (Vm.Alike.refl U.vm) qK, qD⟩, va_recv hKc hPc (ci := 2) (q0 := 0) rfl rfl, fun U hU hW => ⟨rfl, by rw [hU], by rw [hU]; exact hPc, va_K.moved hW.alike hKc, hDc.weaken (fun _ _ _ _ => trivial)⟩⟩ rfl rfl hl.1 rfl (lv_room (Nat.le_of_ble_eq_true rfl)) dX4_gatherHeavyOfBoth_49 ⟨Nat.le_of_ble_eq_true rfl, Nat.le_of_ble_eq_true rfl⟩) hS (fun q _ h => hFc q h) hFc (fun u t H1 locs ht hvm w_53 hB hz1 hk1 hS => ?_)
      obtain ⟨o_54, o_55, o_56, o_57, o_58⟩ := u
      dsimp only at w_53 hB
      obtain ⟨hP1, hK1, hD1⟩ := hB
      rw [ht] at hP1
      have hK1 := va_K.moved hvm.symm hK1
      obtain ⟨hP, hD⟩ := kx_join (w2 := [kx_4 m_ q_row q_t t_ h0 k0 w_ z_ slots old, kx_0 q_row q_cell len, kx_a q_cell cyI 160 f, kx_3 h0 a_v a_n o_45 o_46 o_47, kx_a a_v cyI 12 o_48, kx_a a_n cyI 12 o_49, kx_2 q_t q_row q_joined q_from q_to q_size q_lossOf q_lessBy q_value q_number nodes here, kx_a q_from cyI 319 ff, kx_a q_to cyI 319 ft, kx_a q_size cyI 319 fs, kx_a q_lossOf cyI 319 fo, kx_a q_value cyI 1914 uv, kx_a q_number cyI 1914 un, kx_3 k0 kv kn o_54 o_55 o_56, kx_a kv cyI 12 o_57, kx_a kn cyI 12 o_58]) hP hD hP1 hD1 hk1 hFc [6, 7, 8, 9, 10, 11, 12, 3, 4, 5] [0, 1, 2, 13, 14, 15] hCc rfl (by decide) (by decide)
      clear hP1 hD1 hK1 hk1 hz1 hFc hDc hPc hKc hCc
      generalize H1 = H at hP hS ⊢
      have w_53 : 0 ≤ o_54.toInt ∧ o_54.toInt ≤ 12 := w_53
      refine lv_aload_n hx hb dX4_gatherHeavyOfBoth_52 rfl (lv_at hl 0 rfl) ?_
      refine va_get (D := (dC, dI)) (ci := 4) (v := .ref h0) (C := RX4) (T := TX4) (N := 9) hx hb hts hi_4 hown hK hP 0 rfl rfl 3 (by decide) hf_35 (fun _ h9 => h9) rfl dX4_gatherHeavyOfBoth_53 ?_
      refine lv_aload_n hx hb dX4_gatherHeavyOfBoth_56 rfl (lv_at hl 0 rfl) ?_
      refine va_get (D := (dC, dI)) (ci := 4) (v := .ref k0) (C := RX4) (T := TX4) (N := 9) hx hb hts hi_4 hown hK hP 0 rfl rfl 4 (by decide) hf_39 (fun _ h9 => h9) rfl dX4_gatherHeavyOfBoth_57 ?_
      obtain ⟨hPc, hDc, hFc, hCc⟩ := kx_pre (wc := [kx_3 h0 a_v a_n o_45 o_46 o_47, kx_a a_v cyI 12 o_48, kx_a a_n cyI 12 o_49, kx_3 k0 kv kn o_54 o_55 o_56, kx_a kv cyI 12 o_57, kx_a kn cyI 12 o_58]) hP hD hS hA [3, 4, 5, 13, 14, 15] (by decide) rfl
      have hKc := hK
      refine va_callv (va_runV (As := [.ref k0]) (rest := []) ⟨hx, hb, hml, hown, hts⟩ (c_X3_join l dC dI h0 a_v a_n cyI o_45 o_46 o_47 o_48 o_49 k0 kv kn o_54 o_55 o_56 o_57 o_58 H.size w_44.1 w_44.2 w_53.1 w_53.2) (cwV 1 hts gX4_gatherHeavyOfBoth_X3_join rfl rfl rfl (by decide +kernel) ⟨Nat.le_of_ble_eq_true rfl, Nat.le_of_ble_eq_true rfl⟩) ⟨fun a U g mk q => by obtain ⟨q0, q1, qP, qK, qD⟩ := q; exact ⟨q0, q1, qP, va_K.moved (u := U) (U := U.calling g mk a) (Vm.Alike.refl U.vm) qK, qD⟩, va_recv hKc hPc (ci := 3) (q0 := 0) rfl rfl, fun U hU hW => ⟨rfl, by rw [hU], by rw [hU]; exact hPc, va_K.moved hW.alike hKc, hDc.weaken (fun _ _ _ _ => trivial)⟩⟩ rfl rfl hl.1 rfl (lv_room (Nat.le_of_ble_eq_true rfl)) dX4_gatherHeavyOfBoth_60 ⟨Nat.le_of_ble_eq_true rfl, Nat.le_of_ble_eq_true rfl⟩) hS (fun q _ h => hFc q h) hFc (fun u t H1 locs ht hvm w_59 hB hz1 hk1 hS => ?_)
      obtain ⟨o_60, o_61, o_62, o_63⟩ := u
      dsimp only at w_59 hB
      obtain ⟨hP1, hK1, hD1⟩ := hB
      rw [ht] at hP1
      have hK1 := va_K.moved hvm.symm hK1
      obtain ⟨hP, hD⟩ := kx_join (w2 := [kx_4 m_ q_row q_t t_ h0 k0 w_ z_ slots old, kx_0 q_row q_cell len, kx_a q_cell cyI 160 f, kx_2 q_t q_row q_joined q_from q_to q_size q_lossOf q_lessBy q_value q_number nodes here, kx_a q_from cyI 319 ff, kx_a q_to cyI 319 ft, kx_a q_size cyI 319 fs, kx_a q_lossOf cyI 319 fo, kx_a q_value cyI 1914 uv, kx_a q_number cyI 1914 un, kx_3 h0 a_v a_n o_60 o_61 o_47, kx_a a_v cyI 12 o_62, kx_a a_n cyI 12 o_63, kx_3 k0 kv kn o_54 o_55 o_56, kx_a kv cyI 12 o_57, kx_a kn cyI 12 o_58]) hP hD hP1 hD1 hk1 hFc [3, 4, 5, 13, 14, 15] [0, 1, 2, 6, 7, 8, 9, 10, 11, 12] hCc rfl (by decide) (by decide)
      clear hP1 hD1 hK1 hk1 hz1 hFc hDc hPc hKc hCc
      generalize H1 = H at hP hS ⊢
      have w_59 : 0 ≤ o_60.toInt ∧ o_60.toInt ≤ 12 := w_59
      refine lv_aload_n hx hb dX4_gatherHeavyOfBoth_63 rfl (lv_at hl 0 rfl) ?_
      refine va_get (D := (dC, dI)) (ci := 4) (v := .ref h0) (C := RX4) (T := TX4) (N := 9) hx hb hts hi_4 hown hK hP 0 rfl rfl 3 (by decide) hf_35 (fun _ h9 => h9) rfl dX4_gatherHeavyOfBoth_64 ?_
      refine lv_aload_n hx hb dX4_gatherHeavyOfBoth_67 rfl (lv_at hl 0 rfl) ?_
      refine va_get (D := (dC, dI)) (ci := 4) (v := .int slots) (C := RX4) (T := TX4) (N := 9) hx hb hts hi_4 hown hK hP 0 rfl rfl 7 (by decide) hf_49 (fun _ h9 => h9) rfl dX4_gatherHeavyOfBoth_68 ?_
      obtain ⟨hPc, hDc, hFc, hCc⟩ := kx_pre (wc := [kx_3 h0 a_v a_n o_60 o_61 o_47, kx_a a_v cyI 12 o_62, kx_a a_n cyI 12 o_63]) hP hD hS hA [10, 11, 12] (by decide) rfl
      have hKc := hK
      refine va_callv (va_runV (As := [.int slots]) (rest := []) ⟨hx, hb, hml, hown, hts⟩ (c_X3_cancel l dC dI h0 a_v a_n cyI o_60 o_61 o_47 o_62 o_63 slots H.size w_59.1 w_59.2) (cwV 1 hts gX4_gatherHeavyOfBoth_X3_cancel rfl rfl rfl (by decide +kernel) ⟨Nat.le_of_ble_eq_true rfl, Nat.le_of_ble_eq_true rfl⟩) ⟨fun a U g mk q => by obtain ⟨q0, q1, qP, qK, qD⟩ := q; exact ⟨q0, q1, qP, va_K.moved (u := U) (U := U.calling g mk a) (Vm.Alike.refl U.vm) qK, qD⟩, va_recv hKc hPc (ci := 3) (q0 := 0) rfl rfl, fun U hU hW => ⟨rfl, by rw [hU], by rw [hU]; exact hPc, va_K.moved hW.alike hKc, hDc.weaken (fun _ _ _ _ => trivial)⟩⟩ rfl rfl hl.1 rfl (lv_room (Nat.le_of_ble_eq_true rfl)) dX4_gatherHeavyOfBoth_71 ⟨Nat.le_of_ble_eq_true rfl, Nat.le_of_ble_eq_true rfl⟩) hS (fun q _ h => hFc q h) hFc (fun u t H1 locs ht hvm w_64 hB hz1 hk1 hS => ?_)
      obtain ⟨o_65, o_66, o_67, o_68, o_69⟩ := u
      dsimp only at w_64 hB
      obtain ⟨hP1, hK1, hD1⟩ := hB
      rw [ht] at hP1
      have hK1 := va_K.moved hvm.symm hK1
      obtain ⟨hP, hD⟩ := kx_join (w2 := [kx_4 m_ q_row q_t t_ h0 k0 w_ z_ slots old, kx_0 q_row q_cell len, kx_a q_cell cyI 160 f, kx_2 q_t q_row q_joined q_from q_to q_size q_lossOf q_lessBy q_value q_number nodes here, kx_a q_from cyI 319 ff, kx_a q_to cyI 319 ft, kx_a q_size cyI 319 fs, kx_a q_lossOf cyI 319 fo, kx_a q_value cyI 1914 uv, kx_a q_number cyI 1914 un, kx_3 k0 kv kn o_54 o_55 o_56, kx_a kv cyI 12 o_57, kx_a kn cyI 12 o_58, kx_3 h0 a_v a_n o_65 o_66 o_67, kx_a a_v cyI 12 o_68, kx_a a_n cyI 12 o_69]) hP hD hP1 hD1 hk1 hFc [10, 11, 12] [0, 1, 2, 3, 4, 5, 6, 7, 8, 9, 13, 14, 15] hCc rfl (by decide) (by decide)
      clear hP1 hD1 hK1 hk1 hz1 hFc hDc hPc hKc hCc
      generalize H1 = H at hP hS ⊢
      have w_64 : 0 ≤ o_65.toInt ∧ o_65.toInt ≤ o_60.toInt := w_64
      refine lv_iconst (v := 0) hx hb dX4_gatherHeavyOfBoth_74 (by decide) ?_
      refine lv_istore (lv' := [(8, .int 0), (0, .ref m_), (1, .ref q_t), (2, .int p0), (3, .int p1), (4, .int p2), (5, .int p3), (6, .int p4), (7, .int p5)]) hx hb dX4_gatherHeavyOfBoth_75 hl (by decide) rfl (fun ls hl => ?_)
      have LP2 : ∀ (n : Nat) (i : Int32) (wn : Nat → Int32), (0 ≤ i.toInt) → (o_65.toInt - i.toInt).toNat < n → ∀ (H : Heap) (locs : List Loc), va_P (dC, dI) vwCl [kx_4 m_ q_row q_t t_ h0 k0 w_ z_ slots old, kx_0 q_row q_cell len, kx_a q_cell cyI 160 f, kx_2 q_t q_row q_joined q_from q_to q_size q_lossOf q_lessBy q_value q_number nodes here, kx_a q_from cyI 319 ff, kx_a q_to cyI 319 ft, kx_a q_size cyI 319 fs, kx_a q_lossOf cyI 319 fo, kx_a q_value cyI 1914 uv, kx_a q_number cyI 1914 un, kx_3 k0 kv kn o_54 o_55 o_56, kx_a kv cyI 12 o_57, kx_a kn cyI 12 o_58, kx_3 h0 a_v a_n o_65 o_66 o_67, kx_a a_v cyI 12 o_68, kx_a a_n cyI 12 wn] H → va_D A [kx_4 m_ q_row q_t t_ h0 k0 w_ z_ slots old, kx_0 q_row q_cell len, kx_a q_cell cyI 160 f, kx_2 q_t q_row q_joined q_from q_to q_size q_lossOf q_lessBy q_value q_number nodes here, kx_a q_from cyI 319 ff, kx_a q_to cyI 319 ft, kx_a q_size cyI 319 fs, kx_a q_lossOf cyI 319 fo, kx_a q_value cyI 1914 uv, kx_a q_number cyI 1914 un, kx_3 k0 kv kn o_54 o_55 o_56, kx_a kv cyI 12 o_57, kx_a kn cyI 12 o_58, kx_3 h0 a_v a_n o_65 o_66 o_67, kx_a a_v cyI 12 o_68, kx_a a_n cyI 12 wn] → va_S A s.heap H locs → ∀ (ls : Array Slot), lv_has ls 10 [(8, .int i), (0, .ref m_), (1, .ref q_t), (2, .int p0), (3, .int p1), (4, .int p2), (5, .int p3), (6, .int p4), (7, .int p5)] → W p l e (headSpec wsX4_gatherHeavyOfBoth ({ frames := 4, cells := 0, slots := 0, locals := 180 })).room s m ([.ref m_, .ref q_t, .int p0, .int p1, .int p2, .int p3, .int p4, .int p5] : List Value).toArray below meth c H locs 0 0 (MQ below (va_Qv (fun u : Int32 × Int32 × Int32 × (Nat → Int32) × (Nat → Int32) × Int32 × Int32 × Int32 × (Nat → Int32) × (Nat → Int32) => 0 ≤ u.1.toInt ∧ u.1.toInt ≤ 12) (fun (u : Int32 × Int32 × Int32 × (Nat → Int32) × (Nat → Int32) × Int32 × Int32 × Int32 × (Nat → Int32) × (Nat → Int32)) (t : State) => va_P (dC, dI) vwCl [kx_4 m_ q_row q_t t_ h0 k0 w_ z_ slots old, kx_0 q_row q_cell len, kx_a q_cell cyI 160 f, kx_2 q_t q_row q_joined q_from q_to q_size q_lossOf q_lessBy q_value q_number nodes here, kx_a q_from cyI 319 ff, kx_a q_to cyI 319 ft, kx_a q_size cyI 319 fs, kx_a q_lossOf cyI 319 fo, kx_a q_value cyI 1914 uv, kx_a q_number cyI 1914 un, kx_3 h0 a_v a_n u.1 u.2.1 u.2.2.1, kx_a a_v cyI 12 u.2.2.2.1, kx_a a_n cyI 12 u.2.2.2.2.1, kx_3 k0 kv kn u.2.2.2.2.2.1 u.2.2.2.2.2.2.1 u.2.2.2.2.2.2.2.1, kx_a kv cyI 12 u.2.2.2.2.2.2.2.2.1, kx_a kn cyI 12 u.2.2.2.2.2.2.2.2.2] t.heap ∧ va_K (dC, dI) vwCl [(cyI, .int)] t ∧ va_D A [kx_4 m_ q_row q_t t_ h0 k0 w_ z_ slots old, kx_0 q_row q_cell len, kx_a q_cell cyI 160 f, kx_2 q_t q_row q_joined q_from q_to q_size q_lossOf q_lessBy q_value q_number nodes here, kx_a q_from cyI 319 ff, kx_a q_to cyI 319 ft, kx_a q_size cyI 319 fs, kx_a q_lossOf cyI 319 fo, kx_a q_value cyI 1914 uv, kx_a q_number cyI 1914 un, kx_3 h0 a_v a_n u.1 u.2.1 u.2.2.1, kx_a a_v cyI 12 u.2.2.2.1, kx_a a_n cyI 12 u.2.2.2.2.1, kx_3 k0 kv kn u.2.2.2.2.2.1 u.2.2.2.2.2.2.1 u.2.2.2.2.2.2.2.1, kx_a kv cyI 12 u.2.2.2.2.2.2.2.2.1, kx_a kn cyI 12 u.2.2.2.2.2.2.2.2.2]) A) ([.ref m_, .ref q_t, .int p0, .int p1, .int p2, .int p3, .int p4, .int p5] : List Value).toArray s 0 0 A) (F0 m 77 ls []) := by
        intro n
        induction n with
        | zero => intro i wn LP2_h0 hn; exact absurd hn (Nat.not_lt_zero _)
        | succ n ih2 =>
          intro i wn LP2_h0 hn2 H locs hP hD hS ls hl
          refine lv_iload hx hb dX4_gatherHeavyOfBoth_77 (lv_at hl 0 rfl) ?_
          refine lv_aload_n hx hb dX4_gatherHeavyOfBoth_79 rfl (lv_at hl 1 rfl) ?_
          refine va_get (D := (dC, dI)) (ci := 4) (v := .ref h0) (C := RX4) (T := TX4) (N := 9) hx hb hts hi_4 hown hK hP 0 rfl rfl 3 (by decide) hf_35 (fun _ h9 => h9) rfl dX4_gatherHeavyOfBoth_80 ?_
          refine va_get (D := (dC, dI)) (ci := 3) (v := .int o_65) (C := RX3) (T := TX3) (N := 5) hx hb hts hi_3 hown hK hP 13 rfl rfl 2 (by decide) hf_174 (fun _ h9 => h9) rfl dX4_gatherHeavyOfBoth_83 ?_
          refine lv_icmp_ge (tgt := 142) hx hb dX4_gatherHeavyOfBoth_86 (by decide) (fun c_70 => ?_) (fun c_70 => ?_)
          · have i_70 : o_65.toInt ≤ i.toInt := kc_le c_70
            refine lv_aload_n hx hb dX4_gatherHeavyOfBoth_142 rfl (lv_at hl 1 rfl) ?_
            refine va_get (D := (dC, dI)) (ci := 4) (v := .ref h0) (C := RX4) (T := TX4) (N := 9) hx hb hts hi_4 hown hK hP 0 rfl rfl 3 (by decide) hf_35 (fun _ h9 => h9) rfl dX4_gatherHeavyOfBoth_143 ?_
            refine lv_iload_n hx hb dX4_gatherHeavyOfBoth_146 rfl (lv_at hl 4 rfl) ?_
            refine lv_iload_n hx hb dX4_gatherHeavyOfBoth_147 rfl (lv_at hl 3 rfl) ?_
            refine lv_isub hx hb dX4_gatherHeavyOfBoth_148 ?_
            refine lv_topi (fun y_71 ey_71 => ?_)
            refine lv_iload hx hb dX4_gatherHeavyOfBoth_149 (lv_at hl 6 rfl) ?_
            refine lv_iadd hx hb dX4_gatherHeavyOfBoth_151 ?_
            refine lv_topi (fun y_72 ey_72 => ?_)
            refine lv_iload hx hb dX4_gatherHeavyOfBoth_152 (lv_at hl 5 rfl) ?_
            refine lv_isub hx hb dX4_gatherHeavyOfBoth_154 ?_
            refine lv_topi (fun y_73 ey_73 => ?_)
            refine lv_iload hx hb dX4_gatherHeavyOfBoth_155 (lv_at hl 7 rfl) ?_
            refine lv_iload hx hb dX4_gatherHeavyOfBoth_157 (lv_at hl 8 rfl) ?_
            obtain ⟨hPc, hDc, hFc, hCc⟩ := kx_pre (wc := [kx_3 h0 a_v a_n o_65 o_66 o_67, kx_a a_v cyI 12 o_68, kx_a a_n cyI 12 wn]) hP hD hS hA [13, 14, 15] (by decide) rfl
            have hKc := hK
            refine va_callv (va_runV (As := [.int y_73, .int p4, .int p5]) (rest := []) ⟨hx, hb, hml, hown, hts⟩ (c_X3_keepHeavy l dC dI h0 a_v a_n cyI o_65 o_66 o_67 o_68 wn y_73 p4 p5 H.size w_64.1 (om_117 w_59.2 w_64.2)) (cwV 3 hts gX4_gatherHeavyOfBoth_X3_keepHeavy rfl rfl rfl (by decide +kernel) ⟨Nat.le_of_ble_eq_true rfl, Nat.le_of_ble_eq_true rfl⟩) ⟨fun a U g mk q => by obtain ⟨q0, q1, qP, qK, qD, qn0⟩ := q; exact ⟨q0, q1, qP, va_K.moved (u := U) (U := U.calling g mk a) (Vm.Alike.refl U.vm) qK, qD, va_Nw.same (u := U) (U := U.calling g mk a) rfl rfl qn0⟩, va_recv hKc hPc (ci := 3) (q0 := 0) rfl rfl, fun U hU hW => ⟨rfl, by rw [hU], by rw [hU]; exact hPc, va_K.moved hW.alike hKc, hDc.weaken (fun _ _ _ _ => trivial), va_Nw.warmM hW hN0⟩⟩ rfl rfl hl.1 rfl (lv_room (Nat.le_of_ble_eq_true rfl)) dX4_gatherHeavyOfBoth_159 ⟨Nat.le_of_ble_eq_true rfl, Nat.le_of_ble_eq_true rfl⟩) hS (fun q _ h => hFc q h) hFc (fun u t H1 locs ht hvm w_74 hB hz1 hk1 hS => ?_)
            obtain ⟨o_75, o_76, o_77⟩ := u
            dsimp only at w_74 hB
            obtain ⟨hP1, hK1, hD1⟩ := hB
            rw [ht] at hP1
            have hK1 := va_K.moved hvm.symm hK1
            obtain ⟨hP, hD⟩ := kx_join (w2 := [kx_4 m_ q_row q_t t_ h0 k0 w_ z_ slots old, kx_0 q_row q_cell len, kx_a q_cell cyI 160 f, kx_2 q_t q_row q_joined q_from q_to q_size q_lossOf q_lessBy q_value q_number nodes here, kx_a q_from cyI 319 ff, kx_a q_to cyI 319 ft, kx_a q_size cyI 319 fs, kx_a q_lossOf cyI 319 fo, kx_a q_value cyI 1914 uv, kx_a q_number cyI 1914 un, kx_3 k0 kv kn o_54 o_55 o_56, kx_a kv cyI 12 o_57, kx_a kn cyI 12 o_58, kx_3 h0 a_v a_n o_75 o_66 o_67, kx_a a_v cyI 12 o_76, kx_a a_n cyI 12 o_77]) hP hD hP1 hD1 hk1 hFc [13, 14, 15] [0, 1, 2, 3, 4, 5, 6, 7, 8, 9, 10, 11, 12] hCc rfl (by decide) (by decide)
            clear hP1 hD1 hK1 hk1 hz1 hFc hDc hPc hKc hCc
            generalize H1 = H at hP hS ⊢
            have w_74 : 0 ≤ o_75.toInt ∧ o_75.toInt ≤ o_65.toInt := w_74
            obtain ⟨hP9, hD9⟩ := kx_sub (w2 := [kx_4 m_ q_row q_t t_ h0 k0 w_ z_ slots old, kx_0 q_row q_cell len, kx_a q_cell cyI 160 f, kx_2 q_t q_row q_joined q_from q_to q_size q_lossOf q_lessBy q_value q_number nodes here, kx_a q_from cyI 319 ff, kx_a q_to cyI 319 ft, kx_a q_size cyI 319 fs, kx_a q_lossOf cyI 319 fo, kx_a q_value cyI 1914 uv, kx_a q_number cyI 1914 un, kx_3 h0 a_v a_n o_75 o_66 o_67, kx_a a_v cyI 12 o_76, kx_a a_n cyI 12 o_77, kx_3 k0 kv kn o_54 o_55 o_56, kx_a kv cyI 12 o_57, kx_a kn cyI 12 o_58]) hP hD [0, 1, 2, 3, 4, 5, 6, 7, 8, 9, 13, 14, 15, 10, 11, 12] (by decide) rfl
            have hK9 := hK
            exact W.vret hx hb hr (fun t ht hW => ⟨⟨(o_75, o_66, o_67, o_76, o_77, o_54, o_55, o_56, o_57, o_58), rfl, (by (try dsimp only); omega), by rw [ht]; exact hP9, va_K.moved hW.alike hK9, hD9⟩, hS.F ht⟩) hS.2.2 dX4_gatherHeavyOfBoth_162
          · have i_70 : i.toInt < o_65.toInt := kc_nle c_70
            refine lv_aload_n hx hb dX4_gatherHeavyOfBoth_89 rfl (lv_at hl 1 rfl) ?_
            refine va_get (D := (dC, dI)) (ci := 4) (v := .ref h0) (C := RX4) (T := TX4) (N := 9) hx hb hts hi_4 hown hK hP 0 rfl rfl 3 (by decide) hf_35 (fun _ h9 => h9) rfl dX4_gatherHeavyOfBoth_90 ?_
            refine va_get (D := (dC, dI)) (ci := 3) (v := .ref a_v) (C := RX3) (T := TX3) (N := 5) hx hb hts hi_3 hown hK hP 13 rfl rfl 0 (by decide) hf_133 (fun _ h9 => h9) rfl dX4_gatherHeavyOfBoth_93 ?_
            refine lv_iload hx hb dX4_gatherHeavyOfBoth_96 (lv_at hl 0 rfl) ?_
            refine va_iald hx hb hK hP 14 0 rfl rfl (ki_in (om_8 LP2_h0) (om_181 w_59.2 w_64.2 i_70)) dX4_gatherHeavyOfBoth_98 ?_
            refine lv_topi (fun y_78 ey_78 => ?_)
            have j_78 : y_78.toInt = (o_68 i.toNatClampNeg).toInt := congrArg Int32.toInt ey_78
            refine lv_istore (lv' := [(9, .int y_78), (8, .int i), (0, .ref m_), (1, .ref q_t), (2, .int p0), (3, .int p1), (4, .int p2), (5, .int p3), (6, .int p4), (7, .int p5)]) hx hb dX4_gatherHeavyOfBoth_99 hl (by decide) rfl (fun ls hl => ?_)
            refine lv_aload_n hx hb dX4_gatherHeavyOfBoth_101 rfl (lv_at hl 2 rfl) ?_
            refine va_get (D := (dC, dI)) (ci := 4) (v := .ref h0) (C := RX4) (T := TX4) (N := 9) hx hb hts hi_4 hown hK hP 0 rfl rfl 3 (by decide) hf_35 (fun _ h9 => h9) rfl dX4_gatherHeavyOfBoth_102 ?_
            refine va_get (D := (dC, dI)) (ci := 3) (v := .ref a_n) (C := RX3) (T := TX3) (N := 5) hx hb hts hi_3 hown hK hP 13 rfl rfl 1 (by decide) hf_136 (fun _ h9 => h9) rfl dX4_gatherHeavyOfBoth_105 ?_
            refine lv_iload hx hb dX4_gatherHeavyOfBoth_108 (lv_at hl 1 rfl) ?_
            refine lv_aload_n hx hb dX4_gatherHeavyOfBoth_110 rfl (lv_at hl 2 rfl) ?_
            refine va_get (D := (dC, dI)) (ci := 4) (v := .ref q_row) (C := RX4) (T := TX4) (N := 9) hx hb hts hi_4 hown hK hP 0 rfl rfl 0 (by decide) hf_12 (fun _ h9 => h9) rfl dX4_gatherHeavyOfBoth_111 ?_
            refine lv_iload hx hb dX4_gatherHeavyOfBoth_114 (lv_at hl 0 rfl) ?_
            refine lv_iload_n hx hb dX4_gatherHeavyOfBoth_116 rfl (lv_at hl 4 rfl) ?_
            refine lv_iload_n hx hb dX4_gatherHeavyOfBoth_117 rfl (lv_at hl 5 rfl) ?_
            have hPc := hP.sub (ws' := [kx_0 q_row q_cell len, kx_a q_cell cyI 160 f]) [1, 2] rfl
            have hKc := hK
            refine vp_callSi (W.runV (As := [.int y_78, .int p0, .int p1]) (rest := [.int i, .ref a_n]) ⟨hx, hb, hml, hown, hts⟩ (c_X0_oftenIn l dC dI q_row q_cell cyI len f y_78 p0 p1 d0 d1) (cwV 3 hts gX4_gatherHeavyOfBoth_X0_oftenIn rfl rfl rfl (by decide +kernel) ⟨Nat.le_of_ble_eq_true rfl, Nat.le_of_ble_eq_true rfl⟩) ⟨fun a U g mk q => by obtain ⟨q0, qP, qK⟩ := q; exact ⟨q0, qP, va_K.moved (u := U) (U := U.calling g mk a) (Vm.Alike.refl U.vm) qK⟩, va_recv hKc hPc (ci := 0) (q0 := 0) rfl rfl, fun U hU hW => ⟨rfl, by rw [hU]; exact hPc, va_K.moved hW.alike hKc⟩⟩ rfl rfl hl.1 rfl (lv_room (Nat.le_of_ble_eq_true rfl)) dX4_gatherHeavyOfBoth_118 ⟨Nat.le_of_ble_eq_true rfl, Nat.le_of_ble_eq_true rfl⟩) (fun r_79 w_79 => ?_)
            have w_79 : r_79.toInt = (cnt f y_78 p0.toNatClampNeg (p1.toInt - p0.toInt).toNat : Int) := w_79
            refine lv_aload_n hx hb dX4_gatherHeavyOfBoth_121 rfl (lv_at hl 2 rfl) ?_
            refine va_get (D := (dC, dI)) (ci := 4) (v := .ref q_row) (C := RX4) (T := TX4) (N := 9) hx hb hts hi_4 hown hK hP 0 rfl rfl 0 (by decide) hf_12 (fun _ h9 => h9) rfl dX4_gatherHeavyOfBoth_122 ?_
            refine lv_iload hx hb dX4_gatherHeavyOfBoth_125 (lv_at hl 0 rfl) ?_
            refine lv_iload hx hb dX4_gatherHeavyOfBoth_127 (lv_at hl 6 rfl) ?_
            refine lv_iload hx hb dX4_gatherHeavyOfBoth_129 (lv_at hl 7 rfl) ?_
            have hPc := hP.sub (ws' := [kx_0 q_row q_cell len, kx_a q_cell cyI 160 f]) [1, 2] rfl
            have hKc := hK
            refine vp_callSi (W.runV (As := [.int y_78, .int p2, .int p3]) (rest := [.int r_79, .int i, .ref a_n]) ⟨hx, hb, hml, hown, hts⟩ (c_X0_oftenIn l dC dI q_row q_cell cyI len f y_78 p2 p3 d2 d3) (cwV 3 hts gX4_gatherHeavyOfBoth_X0_oftenIn rfl rfl rfl (by decide +kernel) ⟨Nat.le_of_ble_eq_true rfl, Nat.le_of_ble_eq_true rfl⟩) ⟨fun a U g mk q => by obtain ⟨q0, qP, qK⟩ := q; exact ⟨q0, qP, va_K.moved (u := U) (U := U.calling g mk a) (Vm.Alike.refl U.vm) qK⟩, va_recv hKc hPc (ci := 0) (q0 := 0) rfl rfl, fun U hU hW => ⟨rfl, by rw [hU]; exact hPc, va_K.moved hW.alike hKc⟩⟩ rfl rfl hl.1 rfl (lv_room (Nat.le_of_ble_eq_true rfl)) dX4_gatherHeavyOfBoth_131 ⟨Nat.le_of_ble_eq_true rfl, Nat.le_of_ble_eq_true rfl⟩) (fun r_80 w_80 => ?_)
            have w_80 : r_80.toInt = (cnt f y_78 p2.toNatClampNeg (p3.toInt - p2.toInt).toNat : Int) := w_80
            refine lv_iadd hx hb dX4_gatherHeavyOfBoth_134 ?_
            refine lv_topi (fun y_81 ey_81 => ?_)
            refine va_iast hx hb hK hP hD hS 15 0 rfl rfl (ki_in (om_8 LP2_h0) (om_181 w_59.2 w_64.2 i_70)) dX4_gatherHeavyOfBoth_135 (fun H locs hP hD hS => ?_)
            obtain ⟨hP, hD⟩ := kx_re (w2 := [kx_4 m_ q_row q_t t_ h0 k0 w_ z_ slots old, kx_0 q_row q_cell len, kx_a q_cell cyI 160 f, kx_2 q_t q_row q_joined q_from q_to q_size q_lossOf q_lessBy q_value q_number nodes here, kx_a q_from cyI 319 ff, kx_a q_to cyI 319 ft, kx_a q_size cyI 319 fs, kx_a q_lossOf cyI 319 fo, kx_a q_value cyI 1914 uv, kx_a q_number cyI 1914 un, kx_3 k0 kv kn o_54 o_55 o_56, kx_a kv cyI 12 o_57, kx_a kn cyI 12 o_58, kx_3 h0 a_v a_n o_65 o_66 o_67, kx_a a_v cyI 12 o_68, kx_a a_n cyI 12 (upd wn i.toNatClampNeg y_81)]) hP hD rfl
            obtain ⟨x_82, ex_82⟩ : ∃ y : Int32, y = i + 1 := ⟨_, rfl⟩
            have i_82 : x_82.toInt = i.toInt + 1 := ki_add ex_82 rfl rfl (om_10 LP2_h0) (om_182 w_59.2 w_64.2 i_70)
            refine lv_iinc (v := x_82) (lv' := [(8, .int x_82), (9, .int y_78), (0, .ref m_), (1, .ref q_t), (2, .int p0), (3, .int p1), (4, .int p2), (5, .int p3), (6, .int p4), (7, .int p5)]) hx hb dX4_gatherHeavyOfBoth_136 hl (k := 1) rfl (by rw [ex_82]; rfl) (by decide) rfl (fun ls hl => ?_)
            refine lv_goto (tgt := 77) hx hb dX4_gatherHeavyOfBoth_139 (by decide) ?_
            exact ih2 x_82 (upd wn i.toNatClampNeg y_81) (om_31 LP2_h0 i_82) (om_mu hn2 (om_5 i_82) (om_6 i_70)) _ _ hP hD hS ls (lv_sub hl [0, 2, 3, 4, 5, 6, 7, 8, 9] rfl)
      have k_83 : (0 : Int32).toInt = 0 := rfl
      exact LP2 ((o_65.toInt - 0 : Int).toNat + 1) 0 o_69 om_32 (Nat.lt_succ_self _) _ _ hP hD hS ls (lv_sub hl [0, 1, 2, 3, 4, 5, 6, 7, 8] rfl)



theorem nmX5 : ∀ a, a < 30 → ∀ b, b < 30 → a ≠ b → (TX5 a).2.1 ≠ (TX5 b).2.1 := by decide +kernel
theorem tyX5_ok : ∀ k, k < 30 → parseFieldDescriptor (TX5 k).2.2.1 = some (tyX5 k) := by decide +kernel
abbrev cX5_within : ByteArray := prog_7_method_3_code
def yX5_within : MethodName := ⟨RX5, "within", "(III)Z"⟩
abbrev cX5_isValue : ByteArray := prog_7_method_4_code
def yX5_isValue : MethodName := ⟨RX5, "isValue", "(I)Z"⟩
abbrev cX5_isPlace : ByteArray := prog_7_method_5_code
def yX5_isPlace : MethodName := ⟨RX5, "isPlace", "(I)Z"⟩
abbrev cX5_isRange : ByteArray := prog_7_method_6_code
def yX5_isRange : MethodName := ⟨RX5, "isRange", "(II)Z"⟩
abbrev cX5_isShare : ByteArray := prog_7_method_7_code
def yX5_isShare : MethodName := ⟨RX5, "isShare", "(II)Z"⟩
abbrev cX5_feed : ByteArray := prog_7_method_20_code
def yX5_feed : MethodName := ⟨RX5, "feed", "(II)I"⟩
abbrev cX5_end : ByteArray := prog_7_method_21_code
def yX5_end : MethodName := ⟨RX5, "end", "(I)I"⟩
abbrev cX5_slots : ByteArray := prog_7_method_22_code
def yX5_slots : MethodName := ⟨RX5, "slots", "(I)I"⟩
abbrev cX5_insert : ByteArray := prog_7_method_30_code
def yX5_insert : MethodName := ⟨RX5, "insert", "(II)I"⟩
abbrev cX5_remove : ByteArray := prog_7_method_31_code
def yX5_remove : MethodName := ⟨RX5, "remove", "(I)I"⟩
abbrev cX5_at : ByteArray := prog_7_method_32_code
def yX5_at : MethodName := ⟨RX5, "at", "(I)I"⟩
abbrev cX5_count : ByteArray := prog_7_method_34_code
def yX5_count : MethodName := ⟨RX5, "count", "(III)I"⟩
abbrev cX5_place : ByteArray := prog_7_method_35_code
def yX5_place : MethodName := ⟨RX5, "place", "(II)I"⟩
abbrev cX5_values : ByteArray := prog_7_method_36_code
def yX5_values : MethodName := ⟨RX5, "values", "()I"⟩
abbrev cX5_isEnough : ByteArray := prog_7_method_55_code
def yX5_isEnough : MethodName := ⟨RX5, "isEnough", "(II)Z"⟩
abbrev cX5_majorityOf : ByteArray := prog_7_method_60_code
def yX5_majorityOf : MethodName := ⟨RX5, "majorityOf", "(II)I"⟩
abbrev cX5_majority : ByteArray := prog_7_method_61_code
def yX5_majority : MethodName := ⟨RX5, "majority", "(II)I"⟩
abbrev cX5_margin : ByteArray := prog_7_method_62_code
def yX5_margin : MethodName := ⟨RX5, "margin", "(III)I"⟩
abbrev cX5_longest : ByteArray := prog_7_method_65_code
def yX5_longest : MethodName := ⟨RX5, "longest", "(IIII)I"⟩
abbrev cX5_cut : ByteArray := prog_7_method_68_code
def yX5_cut : MethodName := ⟨RX5, "cut", "(II)I"⟩
abbrev cX5_would : ByteArray := prog_7_method_78_code
def yX5_would : MethodName := ⟨RX5, "would", "(IIII)I"⟩
def wsX5_within : List Cond := .code yX5_within cX5_within 3 (some .boolean) :: ([])
def wsX5_isValue : List Cond := .code yX5_isValue cX5_isValue 1 (some .boolean) :: ([.methodLink RX5 80 yX5_within, .static yX5_within, .initialized RX5, .code yX5_within cX5_within 3 (some .boolean)])
def wsX5_isPlace : List Cond := .code yX5_isPlace cX5_isPlace 2 (some .boolean) :: ([.fieldLink RX5 84 "MajorityIndexModel" "n" "I", .methodLink RX5 80 yX5_within, .static yX5_within, .initialized RX5, .code yX5_within cX5_within 3 (some .boolean)] ++ wsX50)
def wsX5_isRange : List Cond := .code yX5_isRange cX5_isRange 3 (some .boolean) :: ([.fieldLink RX5 84 "MajorityIndexModel" "n" "I"] ++ wsX50)
def wsX5_isShare : List Cond := .code yX5_isShare cX5_isShare 2 (some .boolean) :: ([.methodLink RX5 80 yX5_within, .static yX5_within, .initialized RX5, .code yX5_within cX5_within 3 (some .boolean)])
def wsX5_feed : List Cond := .code yX5_feed cX5_feed 3 (some .int) :: ([.fieldLink RX5 77 "MajorityIndexModel" "thrown" "I", .fieldLink RX5 84 "MajorityIndexModel" "n" "I", .fieldLink RX5 7 "MajorityIndexModel" "row" "[I"] ++ wsX50)
def wsX5_end : List Cond := .code yX5_end cX5_end 2 (some .int) :: ([.fieldLink RX5 77 "MajorityIndexModel" "thrown" "I", .fieldLink RX5 84 "MajorityIndexModel" "n" "I", .methodLink RX5 80 yX5_within, .static yX5_within, .initialized RX5, .code yX5_within cX5_within 3 (some .boolean)] ++ wsX50)
def wsX5_slots : List Cond := .code yX5_slots cX5_slots 3 (some .int) :: ([.fieldLink RX5 77 "MajorityIndexModel" "thrown" "I", .fieldLink RX5 13 "MajorityIndexModel" "slots" "I", .methodLink RX5 80 yX5_within, .static yX5_within, .initialized RX5, .code yX5_within cX5_within 3 (some .boolean)] ++ wsX50)
def wsX5_insert : List Cond := .code yX5_insert cX5_insert 4 (some .int) :: ([.fieldLink RX5 77 "MajorityIndexModel" "thrown" "I", .fieldLink RX5 84 "MajorityIndexModel" "n" "I", .fieldLink RX5 7 "MajorityIndexModel" "row" "[I", .methodLink RX5 80 yX5_within, .static yX5_within, .initialized RX5, .code yX5_within cX5_within 3 (some .boolean), .methodLink RX5 132 yX5_isValue, .static yX5_isValue, .code yX5_isValue cX5_isValue 1 (some .boolean)] ++ wsX50)
def wsX5_remove : List Cond := .code yX5_remove cX5_remove 4 (some .int) :: ([.fieldLink RX5 77 "MajorityIndexModel" "thrown" "I", .constant RX5 148 (-40000), .fieldLink RX5 7 "MajorityIndexModel" "row" "[I", .fieldLink RX5 84 "MajorityIndexModel" "n" "I", .methodLink RX5 128 yX5_isPlace, .instanceMethod yX5_isPlace, .selects RX5 yX5_isPlace yX5_isPlace, .initialized RX5, .code yX5_isPlace cX5_isPlace 2 (some .boolean), .methodLink RX5 80 yX5_within, .static yX5_within, .code yX5_within cX5_within 3 (some .boolean)] ++ wsX50)
def wsX5_at : List Cond := .code yX5_at cX5_at 2 (some .int) :: ([.fieldLink RX5 77 "MajorityIndexModel" "thrown" "I", .fieldLink RX5 7 "MajorityIndexModel" "row" "[I", .methodLink RX5 128 yX5_isPlace, .instanceMethod yX5_isPlace, .selects RX5 yX5_isPlace yX5_isPlace, .initialized RX5, .code yX5_isPlace cX5_isPlace 2 (some .boolean), .fieldLink RX5 84 "MajorityIndexModel" "n" "I", .methodLink RX5 80 yX5_within, .static yX5_within, .code yX5_within cX5_within 3 (some .boolean)] ++ wsX50)
def wsX5_count : List Cond := .code yX5_count cX5_count 4 (some .int) :: ([.fieldLink RX5 77 "MajorityIndexModel" "thrown" "I", .methodLink RX5 132 yX5_isValue, .static yX5_isValue, .initialized RX5, .code yX5_isValue cX5_isValue 1 (some .boolean), .methodLink RX5 80 yX5_within, .static yX5_within, .code yX5_within cX5_within 3 (some .boolean), .methodLink RX5 142 yX5_isRange, .instanceMethod yX5_isRange, .selects RX5 yX5_isRange yX5_isRange, .code yX5_isRange cX5_isRange 3 (some .boolean), .fieldLink RX5 84 "MajorityIndexModel" "n" "I", .methodLink RX5 149 yX5_times, .instanceMethod yX5_times, .selects RX5 yX5_times yX5_times, .code yX5_times cX5_times 6 (some .int), .fieldLink RX5 7 "MajorityIndexModel" "row" "[I"] ++ wsX50)
def wsX5_place : List Cond := .code yX5_place cX5_place 5 (some .int) :: ([.fieldLink RX5 77 "MajorityIndexModel" "thrown" "I", .fieldLink RX5 84 "MajorityIndexModel" "n" "I", .fieldLink RX5 7 "MajorityIndexModel" "row" "[I"] ++ wsX50)
def wsX5_values : List Cond := .code yX5_values cX5_values 3 (some .int) :: ([.fieldLink RX5 77 "MajorityIndexModel" "thrown" "I", .fieldLink RX5 84 "MajorityIndexModel" "n" "I", .fieldLink RX5 7 "MajorityIndexModel" "row" "[I", .methodLink RX5 149 yX5_times, .instanceMethod yX5_times, .selects RX5 yX5_times yX5_times, .initialized RX5, .code yX5_times cX5_times 6 (some .int)] ++ wsX50)
def wsX5_isEnough : List Cond := .code yX5_isEnough cX5_isEnough 3 (some .boolean) :: ([.fieldLink RX5 13 "MajorityIndexModel" "slots" "I"] ++ wsX50)
def wsX5_majorityOf : List Cond := .code yX5_majorityOf cX5_majorityOf 4 (some .int) :: ([.fieldLink RX5 7 "MajorityIndexModel" "row" "[I", .constant RX5 148 (-40000), .methodLink RX5 149 yX5_times, .instanceMethod yX5_times, .selects RX5 yX5_times yX5_times, .initialized RX5, .code yX5_times cX5_times 6 (some .int)] ++ wsX50)
def wsX5_majority : List Cond := .code yX5_majority cX5_majority 3 (some .int) :: ([.fieldLink RX5 77 "MajorityIndexModel" "thrown" "I", .constant RX5 148 (-40000), .methodLink RX5 142 yX5_isRange, .instanceMethod yX5_isRange, .selects RX5 yX5_isRange yX5_isRange, .initialized RX5, .code yX5_isRange cX5_isRange 3 (some .boolean), .fieldLink RX5 84 "MajorityIndexModel" "n" "I", .methodLink RX5 194 yX5_majorityOf, .instanceMethod yX5_majorityOf, .selects RX5 yX5_majorityOf yX5_majorityOf, .code yX5_majorityOf cX5_majorityOf 4 (some .int), .fieldLink RX5 7 "MajorityIndexModel" "row" "[I", .methodLink RX5 149 yX5_times, .instanceMethod yX5_times, .selects RX5 yX5_times yX5_times, .code yX5_times cX5_times 6 (some .int)] ++ wsX50)
def wsX5_margin : List Cond := .code yX5_margin cX5_margin 4 (some .int) :: ([.fieldLink RX5 77 "MajorityIndexModel" "thrown" "I", .constant RX5 148 (-40000), .methodLink RX5 132 yX5_isValue, .static yX5_isValue, .initialized RX5, .code yX5_isValue cX5_isValue 1 (some .boolean), .methodLink RX5 80 yX5_within, .static yX5_within, .code yX5_within cX5_within 3 (some .boolean), .methodLink RX5 142 yX5_isRange, .instanceMethod yX5_isRange, .selects RX5 yX5_isRange yX5_isRange, .code yX5_isRange cX5_isRange 3 (some .boolean), .fieldLink RX5 84 "MajorityIndexModel" "n" "I", .methodLink RX5 149 yX5_times, .instanceMethod yX5_times, .selects RX5 yX5_times yX5_times, .code yX5_times cX5_times 6 (some .int), .fieldLink RX5 7 "MajorityIndexModel" "row" "[I"] ++ wsX50)
def wsX5_longest : List Cond := .code yX5_longest cX5_longest 10 (some .int) :: ([.fieldLink RX5 77 "MajorityIndexModel" "thrown" "I", .fieldLink RX5 84 "MajorityIndexModel" "n" "I", .fieldLink RX5 7 "MajorityIndexModel" "row" "[I", .methodLink RX5 132 yX5_isValue, .static yX5_isValue, .initialized RX5, .code yX5_isValue cX5_isValue 1 (some .boolean), .methodLink RX5 80 yX5_within, .static yX5_within, .code yX5_within cX5_within 3 (some .boolean), .methodLink RX5 184 yX5_isShare, .static yX5_isShare, .code yX5_isShare cX5_isShare 2 (some .boolean)] ++ wsX50)
def wsX5_cut : List Cond := .code yX5_cut cX5_cut 6 (some .int) :: ([.fieldLink RX5 77 "MajorityIndexModel" "thrown" "I", .constant RX5 148 (-40000), .methodLink RX5 142 yX5_isRange, .instanceMethod yX5_isRange, .selects RX5 yX5_isRange yX5_isRange, .initialized RX5, .code yX5_isRange cX5_isRange 3 (some .boolean), .fieldLink RX5 84 "MajorityIndexModel" "n" "I", .methodLink RX5 194 yX5_majorityOf, .instanceMethod yX5_majorityOf, .selects RX5 yX5_majorityOf yX5_majorityOf, .code yX5_majorityOf cX5_majorityOf 4 (some .int), .fieldLink RX5 7 "MajorityIndexModel" "row" "[I", .methodLink RX5 149 yX5_times, .instanceMethod yX5_times, .selects RX5 yX5_times yX5_times, .code yX5_times cX5_times 6 (some .int)] ++ wsX50)
def wsX5_would_r1 : List Cond := [Cond.fieldLink RX5 77 "MajorityIndexModel" "thrown" "I", Cond.constant RX5 148 (-40000), Cond.fieldLink RX5 7 "MajorityIndexModel" "row" "[I", Cond.methodLink RX5 128 yX5_isPlace, Cond.instanceMethod yX5_isPlace, Cond.selects RX5 yX5_isPlace yX5_isPlace, Cond.initialized RX5, Cond.code yX5_isPlace cX5_isPlace 2 (some .boolean), Cond.fieldLink RX5 84 "MajorityIndexModel" "n" "I", Cond.methodLink RX5 80 yX5_within, Cond.static yX5_within, Cond.code yX5_within cX5_within 3 (some .boolean), Cond.methodLink RX5 132 yX5_isValue, Cond.static yX5_isValue, Cond.code yX5_isValue cX5_isValue 1 (some .boolean), Cond.methodLink RX5 142 yX5_isRange, Cond.instanceMethod yX5_isRange, Cond.selects RX5 yX5_isRange yX5_isRange, Cond.code yX5_isRange cX5_isRange 3 (some .boolean), Cond.methodLink RX5 194 yX5_majorityOf, Cond.instanceMethod yX5_majorityOf, Cond.selects RX5 yX5_majorityOf yX5_majorityOf, Cond.code yX5_majorityOf cX5_majorityOf 4 (some .int), Cond.methodLink RX5 149 yX5_times]
def wsX5_would_r2 : List Cond := [Cond.instanceMethod yX5_times, Cond.selects RX5 yX5_times yX5_times, Cond.code yX5_times cX5_times 6 (some .int)]
def wsX5_would : List Cond := .code yX5_would cX5_would 7 (some .int) :: ((wsX5_would_r1 ++ wsX5_would_r2) ++ wsX50)
def dt_cX5_within_0 : List (Nat × Nat × Nat × Nat) := [(0, 26, 0, 0), (1, 27, 0, 0), (2, 161, 2, 12), (5, 26, 0, 0), (6, 28, 0, 0), (7, 163, 2, 7), (10, 4, 0, 0), (11, 167, 2, 4), (14, 3, 0, 0), (15, 172, 0, 0)]
theorem da_cX5_within_0 : fw dt_cX5_within_0 0 cX5_within.data.toList = true := by decide +kernel
theorem dX5_within_0 : decode cX5_within 0 = .ok (.iload_n 0, 1) := fo_26 (fw_get da_cX5_within_0 0 rfl)
theorem dX5_within_1 : decode cX5_within 1 = .ok (.iload_n 1, 1) := fo_27 (fw_get da_cX5_within_0 1 rfl)
theorem dX5_within_2 : decode cX5_within 2 = .ok (.if_icmp .lt 12, 3) := fo_161 (fw_get da_cX5_within_0 2 rfl) (by decide +kernel)
theorem dX5_within_5 : decode cX5_within 5 = .ok (.iload_n 0, 1) := fo_26 (fw_get da_cX5_within_0 3 rfl)
theorem dX5_within_6 : decode cX5_within 6 = .ok (.iload_n 2, 1) := fo_28 (fw_get da_cX5_within_0 4 rfl)
theorem dX5_within_7 : decode cX5_within 7 = .ok (.if_icmp .gt 7, 3) := fo_163 (fw_get da_cX5_within_0 5 rfl) (by decide +kernel)
theorem dX5_within_10 : decode cX5_within 10 = .ok (.iconst 1, 1) := fo_4 (fw_get da_cX5_within_0 6 rfl)
theorem dX5_within_11 : decode cX5_within 11 = .ok (.goto 4, 3) := fo_167 (fw_get da_cX5_within_0 7 rfl) (by decide +kernel)
theorem dX5_within_14 : decode cX5_within 14 = .ok (.iconst 0, 1) := fo_3 (fw_get da_cX5_within_0 8 rfl)
theorem dX5_within_15 : decode cX5_within 15 = .ok (.ireturn, 1) := fo_172 (fw_get da_cX5_within_0 9 rfl)
set_option maxRecDepth 20000 in
theorem ggX5_isValue_X5_within : GoodIn wsX5_isValue wsX5_within := goodIn_r _ [4] rfl (by decide +kernel)
set_option maxRecDepth 20000 in
theorem gX5_isValue_X5_within : GoodIn wsX5_isValue (va_wsS RX5 80 yX5_within wsX5_within) := goodIn_app (goodIn_r _ [1, 2, 3] rfl (by decide +kernel)) ggX5_isValue_X5_within
def dt_cX5_isValue_0 : List (Nat × Nat × Nat × Nat) := [(0, 26, 0, 0), (1, 17, 2, 32768), (4, 17, 2, 32767), (7, 184, 2, 80), (10, 172, 0, 0)]
theorem da_cX5_isValue_0 : fw dt_cX5_isValue_0 0 cX5_isValue.data.toList = true := by decide +kernel
theorem dX5_isValue_0 : decode cX5_isValue 0 = .ok (.iload_n 0, 1) := fo_26 (fw_get da_cX5_isValue_0 0 rfl)
theorem dX5_isValue_1 : decode cX5_isValue 1 = .ok (.sipush (-32768), 3) := fo_17 (fw_get da_cX5_isValue_0 1 rfl) (by decide +kernel)
theorem dX5_isValue_4 : decode cX5_isValue 4 = .ok (.sipush 32767, 3) := fo_17 (fw_get da_cX5_isValue_0 2 rfl) (by decide +kernel)
theorem dX5_isValue_7 : decode cX5_isValue 7 = .ok (.invokestatic 80, 3) := fo_184 (fw_get da_cX5_isValue_0 3 rfl)
theorem dX5_isValue_10 : decode cX5_isValue 10 = .ok (.ireturn, 1) := fo_172 (fw_get da_cX5_isValue_0 4 rfl)
set_option maxRecDepth 20000 in
theorem ggX5_isPlace_X5_within : GoodIn wsX5_isPlace wsX5_within := goodIn_r _ [5] rfl (by decide +kernel)
set_option maxRecDepth 20000 in
theorem gX5_isPlace_X5_within : GoodIn wsX5_isPlace (va_wsS RX5 80 yX5_within wsX5_within) := goodIn_app (goodIn_r _ [2, 3, 4] rfl (by decide +kernel)) ggX5_isPlace_X5_within
def dt_cX5_isPlace_0 : List (Nat × Nat × Nat × Nat) := [(0, 27, 0, 0), (1, 3, 0, 0), (2, 42, 0, 0), (3, 180, 2, 84), (6, 4, 0, 0), (7, 100, 0, 0), (8, 184, 2, 80), (11, 172, 0, 0)]
theorem da_cX5_isPlace_0 : fw dt_cX5_isPlace_0 0 cX5_isPlace.data.toList = true := by decide +kernel
theorem dX5_isPlace_0 : decode cX5_isPlace 0 = .ok (.iload_n 1, 1) := fo_27 (fw_get da_cX5_isPlace_0 0 rfl)
theorem dX5_isPlace_1 : decode cX5_isPlace 1 = .ok (.iconst 0, 1) := fo_3 (fw_get da_cX5_isPlace_0 1 rfl)
theorem dX5_isPlace_2 : decode cX5_isPlace 2 = .ok (.aload_n 0, 1) := fo_42 (fw_get da_cX5_isPlace_0 2 rfl)
theorem dX5_isPlace_3 : decode cX5_isPlace 3 = .ok (.getfield 84, 3) := fo_180 (fw_get da_cX5_isPlace_0 3 rfl)
theorem dX5_isPlace_6 : decode cX5_isPlace 6 = .ok (.iconst 1, 1) := fo_4 (fw_get da_cX5_isPlace_0 4 rfl)
theorem dX5_isPlace_7 : decode cX5_isPlace 7 = .ok (.isub, 1) := fo_100 (fw_get da_cX5_isPlace_0 5 rfl)
theorem dX5_isPlace_8 : decode cX5_isPlace 8 = .ok (.invokestatic 80, 3) := fo_184 (fw_get da_cX5_isPlace_0 6 rfl)
theorem dX5_isPlace_11 : decode cX5_isPlace 11 = .ok (.ireturn, 1) := fo_172 (fw_get da_cX5_isPlace_0 7 rfl)
def dt_cX5_isRange_0 : List (Nat × Nat × Nat × Nat) := [(0, 27, 0, 0), (1, 155, 2, 20), (4, 27, 0, 0), (5, 28, 0, 0), (6, 162, 2, 15), (9, 28, 0, 0), (10, 42, 0, 0), (11, 180, 2, 84), (14, 163, 2, 7), (17, 4, 0, 0), (18, 167, 2, 4), (21, 3, 0, 0), (22, 172, 0, 0)]
theorem da_cX5_isRange_0 : fw dt_cX5_isRange_0 0 cX5_isRange.data.toList = true := by decide +kernel
theorem dX5_isRange_0 : decode cX5_isRange 0 = .ok (.iload_n 1, 1) := fo_27 (fw_get da_cX5_isRange_0 0 rfl)
theorem dX5_isRange_1 : decode cX5_isRange 1 = .ok (.ifCond .lt 20, 3) := fo_155 (fw_get da_cX5_isRange_0 1 rfl) (by decide +kernel)
theorem dX5_isRange_4 : decode cX5_isRange 4 = .ok (.iload_n 1, 1) := fo_27 (fw_get da_cX5_isRange_0 2 rfl)
theorem dX5_isRange_5 : decode cX5_isRange 5 = .ok (.iload_n 2, 1) := fo_28 (fw_get da_cX5_isRange_0 3 rfl)
theorem dX5_isRange_6 : decode cX5_isRange 6 = .ok (.if_icmp .ge 15, 3) := fo_162 (fw_get da_cX5_isRange_0 4 rfl) (by decide +kernel)
theorem dX5_isRange_9 : decode cX5_isRange 9 = .ok (.iload_n 2, 1) := fo_28 (fw_get da_cX5_isRange_0 5 rfl)
theorem dX5_isRange_10 : decode cX5_isRange 10 = .ok (.aload_n 0, 1) := fo_42 (fw_get da_cX5_isRange_0 6 rfl)
theorem dX5_isRange_11 : decode cX5_isRange 11 = .ok (.getfield 84, 3) := fo_180 (fw_get da_cX5_isRange_0 7 rfl)
theorem dX5_isRange_14 : decode cX5_isRange 14 = .ok (.if_icmp .gt 7, 3) := fo_163 (fw_get da_cX5_isRange_0 8 rfl) (by decide +kernel)
theorem dX5_isRange_17 : decode cX5_isRange 17 = .ok (.iconst 1, 1) := fo_4 (fw_get da_cX5_isRange_0 9 rfl)
theorem dX5_isRange_18 : decode cX5_isRange 18 = .ok (.goto 4, 3) := fo_167 (fw_get da_cX5_isRange_0 10 rfl) (by decide +kernel)
theorem dX5_isRange_21 : decode cX5_isRange 21 = .ok (.iconst 0, 1) := fo_3 (fw_get da_cX5_isRange_0 11 rfl)
theorem dX5_isRange_22 : decode cX5_isRange 22 = .ok (.ireturn, 1) := fo_172 (fw_get da_cX5_isRange_0 12 rfl)
set_option maxRecDepth 20000 in
theorem ggX5_isShare_X5_within : GoodIn wsX5_isShare wsX5_within := goodIn_r _ [4] rfl (by decide +kernel)
set_option maxRecDepth 20000 in
theorem gX5_isShare_X5_within : GoodIn wsX5_isShare (va_wsS RX5 80 yX5_within wsX5_within) := goodIn_app (goodIn_r _ [1, 2, 3] rfl (by decide +kernel)) ggX5_isShare_X5_within
def dt_cX5_isShare_0 : List (Nat × Nat × Nat × Nat) := [(0, 26, 0, 0), (1, 4, 0, 0), (2, 17, 2, 999), (5, 184, 2, 80), (8, 153, 2, 18), (11, 27, 0, 0), (12, 26, 0, 0), (13, 17, 2, 999), (16, 184, 2, 80), (19, 153, 2, 7), (22, 4, 0, 0), (23, 167, 2, 4), (26, 3, 0, 0), (27, 172, 0, 0)]
theorem da_cX5_isShare_0 : fw dt_cX5_isShare_0 0 cX5_isShare.data.toList = true := by decide +kernel
theorem dX5_isShare_0 : decode cX5_isShare 0 = .ok (.iload_n 0, 1) := fo_26 (fw_get da_cX5_isShare_0 0 rfl)
theorem dX5_isShare_1 : decode cX5_isShare 1 = .ok (.iconst 1, 1) := fo_4 (fw_get da_cX5_isShare_0 1 rfl)
theorem dX5_isShare_2 : decode cX5_isShare 2 = .ok (.sipush 999, 3) := fo_17 (fw_get da_cX5_isShare_0 2 rfl) (by decide +kernel)
theorem dX5_isShare_5 : decode cX5_isShare 5 = .ok (.invokestatic 80, 3) := fo_184 (fw_get da_cX5_isShare_0 3 rfl)
theorem dX5_isShare_8 : decode cX5_isShare 8 = .ok (.ifCond .eq 18, 3) := fo_153 (fw_get da_cX5_isShare_0 4 rfl) (by decide +kernel)
theorem dX5_isShare_11 : decode cX5_isShare 11 = .ok (.iload_n 1, 1) := fo_27 (fw_get da_cX5_isShare_0 5 rfl)
theorem dX5_isShare_12 : decode cX5_isShare 12 = .ok (.iload_n 0, 1) := fo_26 (fw_get da_cX5_isShare_0 6 rfl)
theorem dX5_isShare_13 : decode cX5_isShare 13 = .ok (.sipush 999, 3) := fo_17 (fw_get da_cX5_isShare_0 7 rfl) (by decide +kernel)
theorem dX5_isShare_16 : decode cX5_isShare 16 = .ok (.invokestatic 80, 3) := fo_184 (fw_get da_cX5_isShare_0 8 rfl)
theorem dX5_isShare_19 : decode cX5_isShare 19 = .ok (.ifCond .eq 7, 3) := fo_153 (fw_get da_cX5_isShare_0 9 rfl) (by decide +kernel)
theorem dX5_isShare_22 : decode cX5_isShare 22 = .ok (.iconst 1, 1) := fo_4 (fw_get da_cX5_isShare_0 10 rfl)
theorem dX5_isShare_23 : decode cX5_isShare 23 = .ok (.goto 4, 3) := fo_167 (fw_get da_cX5_isShare_0 11 rfl) (by decide +kernel)
theorem dX5_isShare_26 : decode cX5_isShare 26 = .ok (.iconst 0, 1) := fo_3 (fw_get da_cX5_isShare_0 12 rfl)
theorem dX5_isShare_27 : decode cX5_isShare 27 = .ok (.ireturn, 1) := fo_172 (fw_get da_cX5_isShare_0 13 rfl)
def dt_cX5_feed_0 : List (Nat × Nat × Nat × Nat) := [(0, 42, 0, 0), (1, 3, 0, 0), (2, 181, 2, 77), (5, 42, 0, 0), (6, 180, 2, 84), (9, 7, 0, 0), (10, 96, 0, 0), (11, 17, 2, 160), (14, 164, 2, 5), (17, 2, 0, 0), (18, 172, 0, 0), (19, 42, 0, 0), (20, 180, 2, 7), (23, 42, 0, 0), (24, 180, 2, 84), (27, 27, 0, 0), (28, 16, 1, 16), (30, 122, 0, 0), (31, 147, 0, 0), (32, 79, 0, 0)]
theorem da_cX5_feed_0 : fw dt_cX5_feed_0 0 cX5_feed.data.toList = true := by decide +kernel
theorem dX5_feed_0 : decode cX5_feed 0 = .ok (.aload_n 0, 1) := fo_42 (fw_get da_cX5_feed_0 0 rfl)
theorem dX5_feed_1 : decode cX5_feed 1 = .ok (.iconst 0, 1) := fo_3 (fw_get da_cX5_feed_0 1 rfl)
theorem dX5_feed_2 : decode cX5_feed 2 = .ok (.putfield 77, 3) := fo_181 (fw_get da_cX5_feed_0 2 rfl)
theorem dX5_feed_5 : decode cX5_feed 5 = .ok (.aload_n 0, 1) := fo_42 (fw_get da_cX5_feed_0 3 rfl)
theorem dX5_feed_6 : decode cX5_feed 6 = .ok (.getfield 84, 3) := fo_180 (fw_get da_cX5_feed_0 4 rfl)
theorem dX5_feed_9 : decode cX5_feed 9 = .ok (.iconst 4, 1) := fo_7 (fw_get da_cX5_feed_0 5 rfl)
theorem dX5_feed_10 : decode cX5_feed 10 = .ok (.iadd, 1) := fo_96 (fw_get da_cX5_feed_0 6 rfl)
theorem dX5_feed_11 : decode cX5_feed 11 = .ok (.sipush 160, 3) := fo_17 (fw_get da_cX5_feed_0 7 rfl) (by decide +kernel)
theorem dX5_feed_14 : decode cX5_feed 14 = .ok (.if_icmp .le 5, 3) := fo_164 (fw_get da_cX5_feed_0 8 rfl) (by decide +kernel)
theorem dX5_feed_17 : decode cX5_feed 17 = .ok (.iconst (-1), 1) := fo_2 (fw_get da_cX5_feed_0 9 rfl)
theorem dX5_feed_18 : decode cX5_feed 18 = .ok (.ireturn, 1) := fo_172 (fw_get da_cX5_feed_0 10 rfl)
theorem dX5_feed_19 : decode cX5_feed 19 = .ok (.aload_n 0, 1) := fo_42 (fw_get da_cX5_feed_0 11 rfl)
theorem dX5_feed_20 : decode cX5_feed 20 = .ok (.getfield 7, 3) := fo_180 (fw_get da_cX5_feed_0 12 rfl)
theorem dX5_feed_23 : decode cX5_feed 23 = .ok (.aload_n 0, 1) := fo_42 (fw_get da_cX5_feed_0 13 rfl)
theorem dX5_feed_24 : decode cX5_feed 24 = .ok (.getfield 84, 3) := fo_180 (fw_get da_cX5_feed_0 14 rfl)
theorem dX5_feed_27 : decode cX5_feed 27 = .ok (.iload_n 1, 1) := fo_27 (fw_get da_cX5_feed_0 15 rfl)
theorem dX5_feed_28 : decode cX5_feed 28 = .ok (.bipush 16, 2) := fo_16 (fw_get da_cX5_feed_0 16 rfl) (by decide +kernel)
theorem dX5_feed_30 : decode cX5_feed 30 = .ok (.ishr, 1) := fo_122 (fw_get da_cX5_feed_0 17 rfl)
theorem dX5_feed_31 : decode cX5_feed 31 = .ok (.i2s, 1) := fo_147 (fw_get da_cX5_feed_0 18 rfl)
theorem dX5_feed_32 : decode cX5_feed 32 = .ok (.iastore, 1) := fo_79 (fw_get da_cX5_feed_0 19 rfl)
def dt_cX5_feed_1 : List (Nat × Nat × Nat × Nat) := [(33, 42, 0, 0), (34, 180, 2, 7), (37, 42, 0, 0), (38, 180, 2, 84), (41, 4, 0, 0), (42, 96, 0, 0), (43, 27, 0, 0), (44, 147, 0, 0), (45, 79, 0, 0), (46, 42, 0, 0), (47, 180, 2, 7), (50, 42, 0, 0), (51, 180, 2, 84), (54, 5, 0, 0), (55, 96, 0, 0), (56, 28, 0, 0), (57, 16, 1, 16), (59, 122, 0, 0), (60, 147, 0, 0), (61, 79, 0, 0)]
theorem da_cX5_feed_1 : fw dt_cX5_feed_1 0 cX5_feed.data.toList = true := by decide +kernel
theorem dX5_feed_33 : decode cX5_feed 33 = .ok (.aload_n 0, 1) := fo_42 (fw_get da_cX5_feed_1 0 rfl)
theorem dX5_feed_34 : decode cX5_feed 34 = .ok (.getfield 7, 3) := fo_180 (fw_get da_cX5_feed_1 1 rfl)
theorem dX5_feed_37 : decode cX5_feed 37 = .ok (.aload_n 0, 1) := fo_42 (fw_get da_cX5_feed_1 2 rfl)
theorem dX5_feed_38 : decode cX5_feed 38 = .ok (.getfield 84, 3) := fo_180 (fw_get da_cX5_feed_1 3 rfl)
theorem dX5_feed_41 : decode cX5_feed 41 = .ok (.iconst 1, 1) := fo_4 (fw_get da_cX5_feed_1 4 rfl)
theorem dX5_feed_42 : decode cX5_feed 42 = .ok (.iadd, 1) := fo_96 (fw_get da_cX5_feed_1 5 rfl)
theorem dX5_feed_43 : decode cX5_feed 43 = .ok (.iload_n 1, 1) := fo_27 (fw_get da_cX5_feed_1 6 rfl)
theorem dX5_feed_44 : decode cX5_feed 44 = .ok (.i2s, 1) := fo_147 (fw_get da_cX5_feed_1 7 rfl)
theorem dX5_feed_45 : decode cX5_feed 45 = .ok (.iastore, 1) := fo_79 (fw_get da_cX5_feed_1 8 rfl)
theorem dX5_feed_46 : decode cX5_feed 46 = .ok (.aload_n 0, 1) := fo_42 (fw_get da_cX5_feed_1 9 rfl)
theorem dX5_feed_47 : decode cX5_feed 47 = .ok (.getfield 7, 3) := fo_180 (fw_get da_cX5_feed_1 10 rfl)
theorem dX5_feed_50 : decode cX5_feed 50 = .ok (.aload_n 0, 1) := fo_42 (fw_get da_cX5_feed_1 11 rfl)
theorem dX5_feed_51 : decode cX5_feed 51 = .ok (.getfield 84, 3) := fo_180 (fw_get da_cX5_feed_1 12 rfl)
theorem dX5_feed_54 : decode cX5_feed 54 = .ok (.iconst 2, 1) := fo_5 (fw_get da_cX5_feed_1 13 rfl)
theorem dX5_feed_55 : decode cX5_feed 55 = .ok (.iadd, 1) := fo_96 (fw_get da_cX5_feed_1 14 rfl)
theorem dX5_feed_56 : decode cX5_feed 56 = .ok (.iload_n 2, 1) := fo_28 (fw_get da_cX5_feed_1 15 rfl)
theorem dX5_feed_57 : decode cX5_feed 57 = .ok (.bipush 16, 2) := fo_16 (fw_get da_cX5_feed_1 16 rfl) (by decide +kernel)
theorem dX5_feed_59 : decode cX5_feed 59 = .ok (.ishr, 1) := fo_122 (fw_get da_cX5_feed_1 17 rfl)
theorem dX5_feed_60 : decode cX5_feed 60 = .ok (.i2s, 1) := fo_147 (fw_get da_cX5_feed_1 18 rfl)
theorem dX5_feed_61 : decode cX5_feed 61 = .ok (.iastore, 1) := fo_79 (fw_get da_cX5_feed_1 19 rfl)
def dt_cX5_feed_2 : List (Nat × Nat × Nat × Nat) := [(62, 42, 0, 0), (63, 180, 2, 7), (66, 42, 0, 0), (67, 180, 2, 84), (70, 6, 0, 0), (71, 96, 0, 0), (72, 28, 0, 0), (73, 147, 0, 0), (74, 79, 0, 0), (75, 42, 0, 0), (76, 89, 0, 0), (77, 180, 2, 84), (80, 7, 0, 0), (81, 96, 0, 0), (82, 181, 2, 84), (85, 42, 0, 0), (86, 180, 2, 84), (89, 172, 0, 0)]
theorem da_cX5_feed_2 : fw dt_cX5_feed_2 0 cX5_feed.data.toList = true := by decide +kernel
theorem dX5_feed_62 : decode cX5_feed 62 = .ok (.aload_n 0, 1) := fo_42 (fw_get da_cX5_feed_2 0 rfl)
theorem dX5_feed_63 : decode cX5_feed 63 = .ok (.getfield 7, 3) := fo_180 (fw_get da_cX5_feed_2 1 rfl)
theorem dX5_feed_66 : decode cX5_feed 66 = .ok (.aload_n 0, 1) := fo_42 (fw_get da_cX5_feed_2 2 rfl)
theorem dX5_feed_67 : decode cX5_feed 67 = .ok (.getfield 84, 3) := fo_180 (fw_get da_cX5_feed_2 3 rfl)
theorem dX5_feed_70 : decode cX5_feed 70 = .ok (.iconst 3, 1) := fo_6 (fw_get da_cX5_feed_2 4 rfl)
theorem dX5_feed_71 : decode cX5_feed 71 = .ok (.iadd, 1) := fo_96 (fw_get da_cX5_feed_2 5 rfl)
theorem dX5_feed_72 : decode cX5_feed 72 = .ok (.iload_n 2, 1) := fo_28 (fw_get da_cX5_feed_2 6 rfl)
theorem dX5_feed_73 : decode cX5_feed 73 = .ok (.i2s, 1) := fo_147 (fw_get da_cX5_feed_2 7 rfl)
theorem dX5_feed_74 : decode cX5_feed 74 = .ok (.iastore, 1) := fo_79 (fw_get da_cX5_feed_2 8 rfl)
theorem dX5_feed_75 : decode cX5_feed 75 = .ok (.aload_n 0, 1) := fo_42 (fw_get da_cX5_feed_2 9 rfl)
theorem dX5_feed_76 : decode cX5_feed 76 = .ok (.dup, 1) := fo_89 (fw_get da_cX5_feed_2 10 rfl)
theorem dX5_feed_77 : decode cX5_feed 77 = .ok (.getfield 84, 3) := fo_180 (fw_get da_cX5_feed_2 11 rfl)
theorem dX5_feed_80 : decode cX5_feed 80 = .ok (.iconst 4, 1) := fo_7 (fw_get da_cX5_feed_2 12 rfl)
theorem dX5_feed_81 : decode cX5_feed 81 = .ok (.iadd, 1) := fo_96 (fw_get da_cX5_feed_2 13 rfl)
theorem dX5_feed_82 : decode cX5_feed 82 = .ok (.putfield 84, 3) := fo_181 (fw_get da_cX5_feed_2 14 rfl)
theorem dX5_feed_85 : decode cX5_feed 85 = .ok (.aload_n 0, 1) := fo_42 (fw_get da_cX5_feed_2 15 rfl)
theorem dX5_feed_86 : decode cX5_feed 86 = .ok (.getfield 84, 3) := fo_180 (fw_get da_cX5_feed_2 16 rfl)
theorem dX5_feed_89 : decode cX5_feed 89 = .ok (.ireturn, 1) := fo_172 (fw_get da_cX5_feed_2 17 rfl)
set_option maxRecDepth 20000 in
theorem ggX5_end_X5_within : GoodIn wsX5_end wsX5_within := goodIn_r _ [6] rfl (by decide +kernel)
set_option maxRecDepth 20000 in
theorem gX5_end_X5_within : GoodIn wsX5_end (va_wsS RX5 80 yX5_within wsX5_within) := goodIn_app (goodIn_r _ [3, 4, 5] rfl (by decide +kernel)) ggX5_end_X5_within
def dt_cX5_end_0 : List (Nat × Nat × Nat × Nat) := [(0, 42, 0, 0), (1, 3, 0, 0), (2, 181, 2, 77), (5, 27, 0, 0), (6, 3, 0, 0), (7, 42, 0, 0), (8, 180, 2, 84), (11, 184, 2, 80), (14, 154, 2, 5), (17, 2, 0, 0), (18, 172, 0, 0), (19, 42, 0, 0), (20, 27, 0, 0), (21, 181, 2, 84), (24, 42, 0, 0), (25, 180, 2, 84), (28, 172, 0, 0)]
theorem da_cX5_end_0 : fw dt_cX5_end_0 0 cX5_end.data.toList = true := by decide +kernel
theorem dX5_end_0 : decode cX5_end 0 = .ok (.aload_n 0, 1) := fo_42 (fw_get da_cX5_end_0 0 rfl)
theorem dX5_end_1 : decode cX5_end 1 = .ok (.iconst 0, 1) := fo_3 (fw_get da_cX5_end_0 1 rfl)
theorem dX5_end_2 : decode cX5_end 2 = .ok (.putfield 77, 3) := fo_181 (fw_get da_cX5_end_0 2 rfl)
theorem dX5_end_5 : decode cX5_end 5 = .ok (.iload_n 1, 1) := fo_27 (fw_get da_cX5_end_0 3 rfl)
theorem dX5_end_6 : decode cX5_end 6 = .ok (.iconst 0, 1) := fo_3 (fw_get da_cX5_end_0 4 rfl)
theorem dX5_end_7 : decode cX5_end 7 = .ok (.aload_n 0, 1) := fo_42 (fw_get da_cX5_end_0 5 rfl)
theorem dX5_end_8 : decode cX5_end 8 = .ok (.getfield 84, 3) := fo_180 (fw_get da_cX5_end_0 6 rfl)
theorem dX5_end_11 : decode cX5_end 11 = .ok (.invokestatic 80, 3) := fo_184 (fw_get da_cX5_end_0 7 rfl)
theorem dX5_end_14 : decode cX5_end 14 = .ok (.ifCond .ne 5, 3) := fo_154 (fw_get da_cX5_end_0 8 rfl) (by decide +kernel)
theorem dX5_end_17 : decode cX5_end 17 = .ok (.iconst (-1), 1) := fo_2 (fw_get da_cX5_end_0 9 rfl)
theorem dX5_end_18 : decode cX5_end 18 = .ok (.ireturn, 1) := fo_172 (fw_get da_cX5_end_0 10 rfl)
theorem dX5_end_19 : decode cX5_end 19 = .ok (.aload_n 0, 1) := fo_42 (fw_get da_cX5_end_0 11 rfl)
theorem dX5_end_20 : decode cX5_end 20 = .ok (.iload_n 1, 1) := fo_27 (fw_get da_cX5_end_0 12 rfl)
theorem dX5_end_21 : decode cX5_end 21 = .ok (.putfield 84, 3) := fo_181 (fw_get da_cX5_end_0 13 rfl)
theorem dX5_end_24 : decode cX5_end 24 = .ok (.aload_n 0, 1) := fo_42 (fw_get da_cX5_end_0 14 rfl)
theorem dX5_end_25 : decode cX5_end 25 = .ok (.getfield 84, 3) := fo_180 (fw_get da_cX5_end_0 15 rfl)
theorem dX5_end_28 : decode cX5_end 28 = .ok (.ireturn, 1) := fo_172 (fw_get da_cX5_end_0 16 rfl)
set_option maxRecDepth 20000 in
theorem ggX5_slots_X5_within : GoodIn wsX5_slots wsX5_within := goodIn_r _ [6] rfl (by decide +kernel)
set_option maxRecDepth 20000 in
theorem gX5_slots_X5_within : GoodIn wsX5_slots (va_wsS RX5 80 yX5_within wsX5_within) := goodIn_app (goodIn_r _ [3, 4, 5] rfl (by decide +kernel)) ggX5_slots_X5_within
def dt_cX5_slots_0 : List (Nat × Nat × Nat × Nat) := [(0, 42, 0, 0), (1, 3, 0, 0), (2, 181, 2, 77), (5, 27, 0, 0), (6, 4, 0, 0), (7, 16, 1, 6), (9, 184, 2, 80), (12, 154, 2, 5), (15, 2, 0, 0), (16, 172, 0, 0), (17, 42, 0, 0), (18, 180, 2, 13), (21, 61, 0, 0), (22, 42, 0, 0), (23, 27, 0, 0), (24, 181, 2, 13), (27, 28, 0, 0), (28, 172, 0, 0)]
theorem da_cX5_slots_0 : fw dt_cX5_slots_0 0 cX5_slots.data.toList = true := by decide +kernel
theorem dX5_slots_0 : decode cX5_slots 0 = .ok (.aload_n 0, 1) := fo_42 (fw_get da_cX5_slots_0 0 rfl)
theorem dX5_slots_1 : decode cX5_slots 1 = .ok (.iconst 0, 1) := fo_3 (fw_get da_cX5_slots_0 1 rfl)
theorem dX5_slots_2 : decode cX5_slots 2 = .ok (.putfield 77, 3) := fo_181 (fw_get da_cX5_slots_0 2 rfl)
theorem dX5_slots_5 : decode cX5_slots 5 = .ok (.iload_n 1, 1) := fo_27 (fw_get da_cX5_slots_0 3 rfl)
theorem dX5_slots_6 : decode cX5_slots 6 = .ok (.iconst 1, 1) := fo_4 (fw_get da_cX5_slots_0 4 rfl)
theorem dX5_slots_7 : decode cX5_slots 7 = .ok (.bipush 6, 2) := fo_16 (fw_get da_cX5_slots_0 5 rfl) (by decide +kernel)
theorem dX5_slots_9 : decode cX5_slots 9 = .ok (.invokestatic 80, 3) := fo_184 (fw_get da_cX5_slots_0 6 rfl)
theorem dX5_slots_12 : decode cX5_slots 12 = .ok (.ifCond .ne 5, 3) := fo_154 (fw_get da_cX5_slots_0 7 rfl) (by decide +kernel)
theorem dX5_slots_15 : decode cX5_slots 15 = .ok (.iconst (-1), 1) := fo_2 (fw_get da_cX5_slots_0 8 rfl)
theorem dX5_slots_16 : decode cX5_slots 16 = .ok (.ireturn, 1) := fo_172 (fw_get da_cX5_slots_0 9 rfl)
theorem dX5_slots_17 : decode cX5_slots 17 = .ok (.aload_n 0, 1) := fo_42 (fw_get da_cX5_slots_0 10 rfl)
theorem dX5_slots_18 : decode cX5_slots 18 = .ok (.getfield 13, 3) := fo_180 (fw_get da_cX5_slots_0 11 rfl)
theorem dX5_slots_21 : decode cX5_slots 21 = .ok (.istore_n 2, 1) := fo_61 (fw_get da_cX5_slots_0 12 rfl)
theorem dX5_slots_22 : decode cX5_slots 22 = .ok (.aload_n 0, 1) := fo_42 (fw_get da_cX5_slots_0 13 rfl)
theorem dX5_slots_23 : decode cX5_slots 23 = .ok (.iload_n 1, 1) := fo_27 (fw_get da_cX5_slots_0 14 rfl)
theorem dX5_slots_24 : decode cX5_slots 24 = .ok (.putfield 13, 3) := fo_181 (fw_get da_cX5_slots_0 15 rfl)
theorem dX5_slots_27 : decode cX5_slots 27 = .ok (.iload_n 2, 1) := fo_28 (fw_get da_cX5_slots_0 16 rfl)
theorem dX5_slots_28 : decode cX5_slots 28 = .ok (.ireturn, 1) := fo_172 (fw_get da_cX5_slots_0 17 rfl)
set_option maxRecDepth 20000 in
theorem ggX5_insert_X5_within : GoodIn wsX5_insert wsX5_within := goodIn_r _ [7] rfl (by decide +kernel)
set_option maxRecDepth 20000 in
theorem gX5_insert_X5_within : GoodIn wsX5_insert (va_wsS RX5 80 yX5_within wsX5_within) := goodIn_app (goodIn_r _ [4, 5, 6] rfl (by decide +kernel)) ggX5_insert_X5_within
set_option maxRecDepth 20000 in
theorem ggX5_insert_X5_isValue : GoodIn wsX5_insert wsX5_isValue := goodIn_r _ [10, 4, 5, 6, 7] rfl (by decide +kernel)
set_option maxRecDepth 20000 in
theorem gX5_insert_X5_isValue : GoodIn wsX5_insert (va_wsS RX5 132 yX5_isValue wsX5_isValue) := goodIn_app (goodIn_r _ [8, 9, 6] rfl (by decide +kernel)) ggX5_insert_X5_isValue
def dt_cX5_insert_0 : List (Nat × Nat × Nat × Nat) := [(0, 42, 0, 0), (1, 3, 0, 0), (2, 181, 2, 77), (5, 27, 0, 0), (6, 3, 0, 0), (7, 42, 0, 0), (8, 180, 2, 84), (11, 184, 2, 80), (14, 153, 2, 20), (17, 28, 0, 0), (18, 184, 2, 132), (21, 153, 2, 13), (24, 42, 0, 0), (25, 180, 2, 84), (28, 17, 2, 160), (31, 160, 2, 5), (34, 2, 0, 0), (35, 172, 0, 0), (36, 42, 0, 0), (37, 180, 2, 84)]
theorem da_cX5_insert_0 : fw dt_cX5_insert_0 0 cX5_insert.data.toList = true := by decide +kernel
theorem dX5_insert_0 : decode cX5_insert 0 = .ok (.aload_n 0, 1) := fo_42 (fw_get da_cX5_insert_0 0 rfl)
theorem dX5_insert_1 : decode cX5_insert 1 = .ok (.iconst 0, 1) := fo_3 (fw_get da_cX5_insert_0 1 rfl)
theorem dX5_insert_2 : decode cX5_insert 2 = .ok (.putfield 77, 3) := fo_181 (fw_get da_cX5_insert_0 2 rfl)
theorem dX5_insert_5 : decode cX5_insert 5 = .ok (.iload_n 1, 1) := fo_27 (fw_get da_cX5_insert_0 3 rfl)
theorem dX5_insert_6 : decode cX5_insert 6 = .ok (.iconst 0, 1) := fo_3 (fw_get da_cX5_insert_0 4 rfl)
theorem dX5_insert_7 : decode cX5_insert 7 = .ok (.aload_n 0, 1) := fo_42 (fw_get da_cX5_insert_0 5 rfl)
theorem dX5_insert_8 : decode cX5_insert 8 = .ok (.getfield 84, 3) := fo_180 (fw_get da_cX5_insert_0 6 rfl)
theorem dX5_insert_11 : decode cX5_insert 11 = .ok (.invokestatic 80, 3) := fo_184 (fw_get da_cX5_insert_0 7 rfl)
theorem dX5_insert_14 : decode cX5_insert 14 = .ok (.ifCond .eq 20, 3) := fo_153 (fw_get da_cX5_insert_0 8 rfl) (by decide +kernel)
theorem dX5_insert_17 : decode cX5_insert 17 = .ok (.iload_n 2, 1) := fo_28 (fw_get da_cX5_insert_0 9 rfl)
theorem dX5_insert_18 : decode cX5_insert 18 = .ok (.invokestatic 132, 3) := fo_184 (fw_get da_cX5_insert_0 10 rfl)
theorem dX5_insert_21 : decode cX5_insert 21 = .ok (.ifCond .eq 13, 3) := fo_153 (fw_get da_cX5_insert_0 11 rfl) (by decide +kernel)
theorem dX5_insert_24 : decode cX5_insert 24 = .ok (.aload_n 0, 1) := fo_42 (fw_get da_cX5_insert_0 12 rfl)
theorem dX5_insert_25 : decode cX5_insert 25 = .ok (.getfield 84, 3) := fo_180 (fw_get da_cX5_insert_0 13 rfl)
theorem dX5_insert_28 : decode cX5_insert 28 = .ok (.sipush 160, 3) := fo_17 (fw_get da_cX5_insert_0 14 rfl) (by decide +kernel)
theorem dX5_insert_31 : decode cX5_insert 31 = .ok (.if_icmp .ne 5, 3) := fo_160 (fw_get da_cX5_insert_0 15 rfl) (by decide +kernel)
theorem dX5_insert_34 : decode cX5_insert 34 = .ok (.iconst (-1), 1) := fo_2 (fw_get da_cX5_insert_0 16 rfl)
theorem dX5_insert_35 : decode cX5_insert 35 = .ok (.ireturn, 1) := fo_172 (fw_get da_cX5_insert_0 17 rfl)
theorem dX5_insert_36 : decode cX5_insert 36 = .ok (.aload_n 0, 1) := fo_42 (fw_get da_cX5_insert_0 18 rfl)
theorem dX5_insert_37 : decode cX5_insert 37 = .ok (.getfield 84, 3) := fo_180 (fw_get da_cX5_insert_0 19 rfl)
def dt_cX5_insert_1 : List (Nat × Nat × Nat × Nat) := [(40, 62, 0, 0), (41, 29, 0, 0), (42, 27, 0, 0), (43, 164, 2, 23), (46, 42, 0, 0), (47, 180, 2, 7), (50, 29, 0, 0), (51, 42, 0, 0), (52, 180, 2, 7), (55, 29, 0, 0), (56, 4, 0, 0), (57, 100, 0, 0), (58, 46, 0, 0), (59, 79, 0, 0), (60, 132, 2, 1023), (63, 167, 2, 65514), (66, 42, 0, 0), (67, 180, 2, 7), (70, 27, 0, 0), (71, 28, 0, 0)]
theorem da_cX5_insert_1 : fw dt_cX5_insert_1 0 cX5_insert.data.toList = true := by decide +kernel
theorem dX5_insert_40 : decode cX5_insert 40 = .ok (.istore_n 3, 1) := fo_62 (fw_get da_cX5_insert_1 0 rfl)
theorem dX5_insert_41 : decode cX5_insert 41 = .ok (.iload_n 3, 1) := fo_29 (fw_get da_cX5_insert_1 1 rfl)
theorem dX5_insert_42 : decode cX5_insert 42 = .ok (.iload_n 1, 1) := fo_27 (fw_get da_cX5_insert_1 2 rfl)
theorem dX5_insert_43 : decode cX5_insert 43 = .ok (.if_icmp .le 23, 3) := fo_164 (fw_get da_cX5_insert_1 3 rfl) (by decide +kernel)
theorem dX5_insert_46 : decode cX5_insert 46 = .ok (.aload_n 0, 1) := fo_42 (fw_get da_cX5_insert_1 4 rfl)
theorem dX5_insert_47 : decode cX5_insert 47 = .ok (.getfield 7, 3) := fo_180 (fw_get da_cX5_insert_1 5 rfl)
theorem dX5_insert_50 : decode cX5_insert 50 = .ok (.iload_n 3, 1) := fo_29 (fw_get da_cX5_insert_1 6 rfl)
theorem dX5_insert_51 : decode cX5_insert 51 = .ok (.aload_n 0, 1) := fo_42 (fw_get da_cX5_insert_1 7 rfl)
theorem dX5_insert_52 : decode cX5_insert 52 = .ok (.getfield 7, 3) := fo_180 (fw_get da_cX5_insert_1 8 rfl)
theorem dX5_insert_55 : decode cX5_insert 55 = .ok (.iload_n 3, 1) := fo_29 (fw_get da_cX5_insert_1 9 rfl)
theorem dX5_insert_56 : decode cX5_insert 56 = .ok (.iconst 1, 1) := fo_4 (fw_get da_cX5_insert_1 10 rfl)
theorem dX5_insert_57 : decode cX5_insert 57 = .ok (.isub, 1) := fo_100 (fw_get da_cX5_insert_1 11 rfl)
theorem dX5_insert_58 : decode cX5_insert 58 = .ok (.iaload, 1) := fo_46 (fw_get da_cX5_insert_1 12 rfl)
theorem dX5_insert_59 : decode cX5_insert 59 = .ok (.iastore, 1) := fo_79 (fw_get da_cX5_insert_1 13 rfl)
theorem dX5_insert_60 : decode cX5_insert 60 = .ok (.iinc 3 (-1), 3) := fo_132 (fw_get da_cX5_insert_1 14 rfl) rfl (by decide +kernel)
theorem dX5_insert_63 : decode cX5_insert 63 = .ok (.goto (-22), 3) := fo_167 (fw_get da_cX5_insert_1 15 rfl) (by decide +kernel)
theorem dX5_insert_66 : decode cX5_insert 66 = .ok (.aload_n 0, 1) := fo_42 (fw_get da_cX5_insert_1 16 rfl)
theorem dX5_insert_67 : decode cX5_insert 67 = .ok (.getfield 7, 3) := fo_180 (fw_get da_cX5_insert_1 17 rfl)
theorem dX5_insert_70 : decode cX5_insert 70 = .ok (.iload_n 1, 1) := fo_27 (fw_get da_cX5_insert_1 18 rfl)
theorem dX5_insert_71 : decode cX5_insert 71 = .ok (.iload_n 2, 1) := fo_28 (fw_get da_cX5_insert_1 19 rfl)
def dt_cX5_insert_2 : List (Nat × Nat × Nat × Nat) := [(72, 79, 0, 0), (73, 42, 0, 0), (74, 89, 0, 0), (75, 180, 2, 84), (78, 4, 0, 0), (79, 96, 0, 0), (80, 181, 2, 84), (83, 42, 0, 0), (84, 180, 2, 84), (87, 172, 0, 0)]
theorem da_cX5_insert_2 : fw dt_cX5_insert_2 0 cX5_insert.data.toList = true := by decide +kernel
theorem dX5_insert_72 : decode cX5_insert 72 = .ok (.iastore, 1) := fo_79 (fw_get da_cX5_insert_2 0 rfl)
theorem dX5_insert_73 : decode cX5_insert 73 = .ok (.aload_n 0, 1) := fo_42 (fw_get da_cX5_insert_2 1 rfl)
theorem dX5_insert_74 : decode cX5_insert 74 = .ok (.dup, 1) := fo_89 (fw_get da_cX5_insert_2 2 rfl)
theorem dX5_insert_75 : decode cX5_insert 75 = .ok (.getfield 84, 3) := fo_180 (fw_get da_cX5_insert_2 3 rfl)
theorem dX5_insert_78 : decode cX5_insert 78 = .ok (.iconst 1, 1) := fo_4 (fw_get da_cX5_insert_2 4 rfl)
theorem dX5_insert_79 : decode cX5_insert 79 = .ok (.iadd, 1) := fo_96 (fw_get da_cX5_insert_2 5 rfl)
theorem dX5_insert_80 : decode cX5_insert 80 = .ok (.putfield 84, 3) := fo_181 (fw_get da_cX5_insert_2 6 rfl)
theorem dX5_insert_83 : decode cX5_insert 83 = .ok (.aload_n 0, 1) := fo_42 (fw_get da_cX5_insert_2 7 rfl)
theorem dX5_insert_84 : decode cX5_insert 84 = .ok (.getfield 84, 3) := fo_180 (fw_get da_cX5_insert_2 8 rfl)
theorem dX5_insert_87 : decode cX5_insert 87 = .ok (.ireturn, 1) := fo_172 (fw_get da_cX5_insert_2 9 rfl)
set_option maxRecDepth 20000 in
theorem ggX5_remove_X5_isPlace : GoodIn wsX5_remove wsX5_isPlace := goodIn_r _ [9, 4, 10, 11, 8, 12, 13, 14, 15, 16, 17, 18, 19, 20, 21, 22, 23, 24, 25, 26, 27, 28, 29, 30, 31, 32, 33, 34, 35, 36, 37, 38, 39, 40, 41, 42] rfl (by decide +kernel)
set_option maxRecDepth 20000 in
theorem gX5_remove_X5_isPlace : GoodIn wsX5_remove (wsV RX5 128 RX5 yX5_isPlace wsX5_isPlace) := goodIn_app (goodIn_r _ [5, 6, 7, 8] rfl (by decide +kernel)) ggX5_remove_X5_isPlace
def dt_cX5_remove_0 : List (Nat × Nat × Nat × Nat) := [(0, 42, 0, 0), (1, 3, 0, 0), (2, 181, 2, 77), (5, 42, 0, 0), (6, 27, 0, 0), (7, 182, 2, 128), (10, 154, 2, 6), (13, 18, 1, 148), (15, 172, 0, 0), (16, 42, 0, 0), (17, 180, 2, 7), (20, 27, 0, 0), (21, 46, 0, 0), (22, 61, 0, 0), (23, 42, 0, 0), (24, 89, 0, 0), (25, 180, 2, 84), (28, 4, 0, 0), (29, 100, 0, 0), (30, 181, 2, 84)]
theorem da_cX5_remove_0 : fw dt_cX5_remove_0 0 cX5_remove.data.toList = true := by decide +kernel
theorem dX5_remove_0 : decode cX5_remove 0 = .ok (.aload_n 0, 1) := fo_42 (fw_get da_cX5_remove_0 0 rfl)
theorem dX5_remove_1 : decode cX5_remove 1 = .ok (.iconst 0, 1) := fo_3 (fw_get da_cX5_remove_0 1 rfl)
theorem dX5_remove_2 : decode cX5_remove 2 = .ok (.putfield 77, 3) := fo_181 (fw_get da_cX5_remove_0 2 rfl)
theorem dX5_remove_5 : decode cX5_remove 5 = .ok (.aload_n 0, 1) := fo_42 (fw_get da_cX5_remove_0 3 rfl)
theorem dX5_remove_6 : decode cX5_remove 6 = .ok (.iload_n 1, 1) := fo_27 (fw_get da_cX5_remove_0 4 rfl)
theorem dX5_remove_7 : decode cX5_remove 7 = .ok (.invokevirtual 128, 3) := fo_182 (fw_get da_cX5_remove_0 5 rfl)
theorem dX5_remove_10 : decode cX5_remove 10 = .ok (.ifCond .ne 6, 3) := fo_154 (fw_get da_cX5_remove_0 6 rfl) (by decide +kernel)
theorem dX5_remove_13 : decode cX5_remove 13 = .ok (.ldc 148, 2) := fo_18 (fw_get da_cX5_remove_0 7 rfl)
theorem dX5_remove_15 : decode cX5_remove 15 = .ok (.ireturn, 1) := fo_172 (fw_get da_cX5_remove_0 8 rfl)
theorem dX5_remove_16 : decode cX5_remove 16 = .ok (.aload_n 0, 1) := fo_42 (fw_get da_cX5_remove_0 9 rfl)
theorem dX5_remove_17 : decode cX5_remove 17 = .ok (.getfield 7, 3) := fo_180 (fw_get da_cX5_remove_0 10 rfl)
theorem dX5_remove_20 : decode cX5_remove 20 = .ok (.iload_n 1, 1) := fo_27 (fw_get da_cX5_remove_0 11 rfl)
theorem dX5_remove_21 : decode cX5_remove 21 = .ok (.iaload, 1) := fo_46 (fw_get da_cX5_remove_0 12 rfl)
theorem dX5_remove_22 : decode cX5_remove 22 = .ok (.istore_n 2, 1) := fo_61 (fw_get da_cX5_remove_0 13 rfl)
theorem dX5_remove_23 : decode cX5_remove 23 = .ok (.aload_n 0, 1) := fo_42 (fw_get da_cX5_remove_0 14 rfl)
theorem dX5_remove_24 : decode cX5_remove 24 = .ok (.dup, 1) := fo_89 (fw_get da_cX5_remove_0 15 rfl)
theorem dX5_remove_25 : decode cX5_remove 25 = .ok (.getfield 84, 3) := fo_180 (fw_get da_cX5_remove_0 16 rfl)
theorem dX5_remove_28 : decode cX5_remove 28 = .ok (.iconst 1, 1) := fo_4 (fw_get da_cX5_remove_0 17 rfl)
theorem dX5_remove_29 : decode cX5_remove 29 = .ok (.isub, 1) := fo_100 (fw_get da_cX5_remove_0 18 rfl)
theorem dX5_remove_30 : decode cX5_remove 30 = .ok (.putfield 84, 3) := fo_181 (fw_get da_cX5_remove_0 19 rfl)
def dt_cX5_remove_1 : List (Nat × Nat × Nat × Nat) := [(33, 27, 0, 0), (34, 62, 0, 0), (35, 29, 0, 0), (36, 42, 0, 0), (37, 180, 2, 84), (40, 162, 2, 23), (43, 42, 0, 0), (44, 180, 2, 7), (47, 29, 0, 0), (48, 42, 0, 0), (49, 180, 2, 7), (52, 29, 0, 0), (53, 4, 0, 0), (54, 96, 0, 0), (55, 46, 0, 0), (56, 79, 0, 0), (57, 132, 2, 769), (60, 167, 2, 65511), (63, 28, 0, 0), (64, 172, 0, 0)]
theorem da_cX5_remove_1 : fw dt_cX5_remove_1 0 cX5_remove.data.toList = true := by decide +kernel
theorem dX5_remove_33 : decode cX5_remove 33 = .ok (.iload_n 1, 1) := fo_27 (fw_get da_cX5_remove_1 0 rfl)
theorem dX5_remove_34 : decode cX5_remove 34 = .ok (.istore_n 3, 1) := fo_62 (fw_get da_cX5_remove_1 1 rfl)
theorem dX5_remove_35 : decode cX5_remove 35 = .ok (.iload_n 3, 1) := fo_29 (fw_get da_cX5_remove_1 2 rfl)
theorem dX5_remove_36 : decode cX5_remove 36 = .ok (.aload_n 0, 1) := fo_42 (fw_get da_cX5_remove_1 3 rfl)
theorem dX5_remove_37 : decode cX5_remove 37 = .ok (.getfield 84, 3) := fo_180 (fw_get da_cX5_remove_1 4 rfl)
theorem dX5_remove_40 : decode cX5_remove 40 = .ok (.if_icmp .ge 23, 3) := fo_162 (fw_get da_cX5_remove_1 5 rfl) (by decide +kernel)
theorem dX5_remove_43 : decode cX5_remove 43 = .ok (.aload_n 0, 1) := fo_42 (fw_get da_cX5_remove_1 6 rfl)
theorem dX5_remove_44 : decode cX5_remove 44 = .ok (.getfield 7, 3) := fo_180 (fw_get da_cX5_remove_1 7 rfl)
theorem dX5_remove_47 : decode cX5_remove 47 = .ok (.iload_n 3, 1) := fo_29 (fw_get da_cX5_remove_1 8 rfl)
theorem dX5_remove_48 : decode cX5_remove 48 = .ok (.aload_n 0, 1) := fo_42 (fw_get da_cX5_remove_1 9 rfl)
theorem dX5_remove_49 : decode cX5_remove 49 = .ok (.getfield 7, 3) := fo_180 (fw_get da_cX5_remove_1 10 rfl)
theorem dX5_remove_52 : decode cX5_remove 52 = .ok (.iload_n 3, 1) := fo_29 (fw_get da_cX5_remove_1 11 rfl)
theorem dX5_remove_53 : decode cX5_remove 53 = .ok (.iconst 1, 1) := fo_4 (fw_get da_cX5_remove_1 12 rfl)
theorem dX5_remove_54 : decode cX5_remove 54 = .ok (.iadd, 1) := fo_96 (fw_get da_cX5_remove_1 13 rfl)
theorem dX5_remove_55 : decode cX5_remove 55 = .ok (.iaload, 1) := fo_46 (fw_get da_cX5_remove_1 14 rfl)
theorem dX5_remove_56 : decode cX5_remove 56 = .ok (.iastore, 1) := fo_79 (fw_get da_cX5_remove_1 15 rfl)
theorem dX5_remove_57 : decode cX5_remove 57 = .ok (.iinc 3 1, 3) := fo_132 (fw_get da_cX5_remove_1 16 rfl) rfl (by decide +kernel)
theorem dX5_remove_60 : decode cX5_remove 60 = .ok (.goto (-25), 3) := fo_167 (fw_get da_cX5_remove_1 17 rfl) (by decide +kernel)
theorem dX5_remove_63 : decode cX5_remove 63 = .ok (.iload_n 2, 1) := fo_28 (fw_get da_cX5_remove_1 18 rfl)
theorem dX5_remove_64 : decode cX5_remove 64 = .ok (.ireturn, 1) := fo_172 (fw_get da_cX5_remove_1 19 rfl)
set_option maxRecDepth 20000 in
theorem ggX5_at_X5_isPlace : GoodIn wsX5_at wsX5_isPlace := goodIn_r _ [7, 8, 9, 10, 6, 11, 12, 13, 14, 15, 16, 17, 18, 19, 20, 21, 22, 23, 24, 25, 26, 27, 28, 29, 30, 31, 32, 33, 34, 35, 36, 37, 38, 39, 40, 41] rfl (by decide +kernel)
set_option maxRecDepth 20000 in
theorem gX5_at_X5_isPlace : GoodIn wsX5_at (wsV RX5 128 RX5 yX5_isPlace wsX5_isPlace) := goodIn_app (goodIn_r _ [3, 4, 5, 6] rfl (by decide +kernel)) ggX5_at_X5_isPlace
def dt_cX5_at_0 : List (Nat × Nat × Nat × Nat) := [(0, 42, 0, 0), (1, 42, 0, 0), (2, 27, 0, 0), (3, 182, 2, 128), (6, 153, 2, 7), (9, 3, 0, 0), (10, 167, 2, 4), (13, 4, 0, 0), (14, 181, 2, 77), (17, 42, 0, 0), (18, 180, 2, 77), (21, 154, 2, 12), (24, 42, 0, 0), (25, 180, 2, 7), (28, 27, 0, 0), (29, 46, 0, 0), (30, 167, 2, 4), (33, 3, 0, 0), (34, 172, 0, 0)]
theorem da_cX5_at_0 : fw dt_cX5_at_0 0 cX5_at.data.toList = true := by decide +kernel
theorem dX5_at_0 : decode cX5_at 0 = .ok (.aload_n 0, 1) := fo_42 (fw_get da_cX5_at_0 0 rfl)
theorem dX5_at_1 : decode cX5_at 1 = .ok (.aload_n 0, 1) := fo_42 (fw_get da_cX5_at_0 1 rfl)
theorem dX5_at_2 : decode cX5_at 2 = .ok (.iload_n 1, 1) := fo_27 (fw_get da_cX5_at_0 2 rfl)
theorem dX5_at_3 : decode cX5_at 3 = .ok (.invokevirtual 128, 3) := fo_182 (fw_get da_cX5_at_0 3 rfl)
theorem dX5_at_6 : decode cX5_at 6 = .ok (.ifCond .eq 7, 3) := fo_153 (fw_get da_cX5_at_0 4 rfl) (by decide +kernel)
theorem dX5_at_9 : decode cX5_at 9 = .ok (.iconst 0, 1) := fo_3 (fw_get da_cX5_at_0 5 rfl)
theorem dX5_at_10 : decode cX5_at 10 = .ok (.goto 4, 3) := fo_167 (fw_get da_cX5_at_0 6 rfl) (by decide +kernel)
theorem dX5_at_13 : decode cX5_at 13 = .ok (.iconst 1, 1) := fo_4 (fw_get da_cX5_at_0 7 rfl)
theorem dX5_at_14 : decode cX5_at 14 = .ok (.putfield 77, 3) := fo_181 (fw_get da_cX5_at_0 8 rfl)
theorem dX5_at_17 : decode cX5_at 17 = .ok (.aload_n 0, 1) := fo_42 (fw_get da_cX5_at_0 9 rfl)
theorem dX5_at_18 : decode cX5_at 18 = .ok (.getfield 77, 3) := fo_180 (fw_get da_cX5_at_0 10 rfl)
theorem dX5_at_21 : decode cX5_at 21 = .ok (.ifCond .ne 12, 3) := fo_154 (fw_get da_cX5_at_0 11 rfl) (by decide +kernel)
theorem dX5_at_24 : decode cX5_at 24 = .ok (.aload_n 0, 1) := fo_42 (fw_get da_cX5_at_0 12 rfl)
theorem dX5_at_25 : decode cX5_at 25 = .ok (.getfield 7, 3) := fo_180 (fw_get da_cX5_at_0 13 rfl)
theorem dX5_at_28 : decode cX5_at 28 = .ok (.iload_n 1, 1) := fo_27 (fw_get da_cX5_at_0 14 rfl)
theorem dX5_at_29 : decode cX5_at 29 = .ok (.iaload, 1) := fo_46 (fw_get da_cX5_at_0 15 rfl)
theorem dX5_at_30 : decode cX5_at 30 = .ok (.goto 4, 3) := fo_167 (fw_get da_cX5_at_0 16 rfl) (by decide +kernel)
theorem dX5_at_33 : decode cX5_at 33 = .ok (.iconst 0, 1) := fo_3 (fw_get da_cX5_at_0 17 rfl)
theorem dX5_at_34 : decode cX5_at 34 = .ok (.ireturn, 1) := fo_172 (fw_get da_cX5_at_0 18 rfl)
set_option maxRecDepth 20000 in
theorem ggX5_count_X5_isValue : GoodIn wsX5_count wsX5_isValue := goodIn_r _ [5, 6, 7, 4, 8] rfl (by decide +kernel)
set_option maxRecDepth 20000 in
theorem gX5_count_X5_isValue : GoodIn wsX5_count (va_wsS RX5 132 yX5_isValue wsX5_isValue) := goodIn_app (goodIn_r _ [2, 3, 4] rfl (by decide +kernel)) ggX5_count_X5_isValue
set_option maxRecDepth 20000 in
theorem ggX5_count_X5_isRange : GoodIn wsX5_count wsX5_isRange := goodIn_r _ [12, 13, 19, 20, 21, 22, 23, 24, 25, 26, 27, 28, 29, 30, 31, 32, 33, 34, 35, 36, 37, 38, 39, 40, 41, 42, 43, 44, 45, 46, 47, 48] rfl (by decide +kernel)
set_option maxRecDepth 20000 in
theorem gX5_count_X5_isRange : GoodIn wsX5_count (wsV RX5 142 RX5 yX5_isRange wsX5_isRange) := goodIn_app (goodIn_r _ [9, 10, 11, 4] rfl (by decide +kernel)) ggX5_count_X5_isRange
set_option maxRecDepth 20000 in
theorem ggX5_count_X5_times : GoodIn wsX5_count wsX5_times := goodIn_r _ [17, 18, 19, 20, 21, 22, 23, 24, 25, 26, 27, 28, 29, 30, 31, 32, 33, 34, 35, 36, 37, 38, 39, 40, 41, 42, 43, 44, 45, 46, 47, 48] rfl (by decide +kernel)
set_option maxRecDepth 20000 in
theorem gX5_count_X5_times : GoodIn wsX5_count (wsV RX5 149 RX5 yX5_times wsX5_times) := goodIn_app (goodIn_r _ [14, 15, 16, 4] rfl (by decide +kernel)) ggX5_count_X5_times
def dt_cX5_count_0 : List (Nat × Nat × Nat × Nat) := [(0, 42, 0, 0), (1, 3, 0, 0), (2, 181, 2, 77), (5, 27, 0, 0), (6, 184, 2, 132), (9, 153, 2, 22), (12, 42, 0, 0), (13, 28, 0, 0), (14, 29, 0, 0), (15, 182, 2, 142), (18, 153, 2, 13), (21, 42, 0, 0), (22, 27, 0, 0), (23, 28, 0, 0), (24, 29, 0, 0), (25, 182, 2, 149), (28, 167, 2, 4), (31, 2, 0, 0), (32, 172, 0, 0)]
theorem da_cX5_count_0 : fw dt_cX5_count_0 0 cX5_count.data.toList = true := by decide +kernel
theorem dX5_count_0 : decode cX5_count 0 = .ok (.aload_n 0, 1) := fo_42 (fw_get da_cX5_count_0 0 rfl)
theorem dX5_count_1 : decode cX5_count 1 = .ok (.iconst 0, 1) := fo_3 (fw_get da_cX5_count_0 1 rfl)
theorem dX5_count_2 : decode cX5_count 2 = .ok (.putfield 77, 3) := fo_181 (fw_get da_cX5_count_0 2 rfl)
theorem dX5_count_5 : decode cX5_count 5 = .ok (.iload_n 1, 1) := fo_27 (fw_get da_cX5_count_0 3 rfl)
theorem dX5_count_6 : decode cX5_count 6 = .ok (.invokestatic 132, 3) := fo_184 (fw_get da_cX5_count_0 4 rfl)
theorem dX5_count_9 : decode cX5_count 9 = .ok (.ifCond .eq 22, 3) := fo_153 (fw_get da_cX5_count_0 5 rfl) (by decide +kernel)
theorem dX5_count_12 : decode cX5_count 12 = .ok (.aload_n 0, 1) := fo_42 (fw_get da_cX5_count_0 6 rfl)
theorem dX5_count_13 : decode cX5_count 13 = .ok (.iload_n 2, 1) := fo_28 (fw_get da_cX5_count_0 7 rfl)
theorem dX5_count_14 : decode cX5_count 14 = .ok (.iload_n 3, 1) := fo_29 (fw_get da_cX5_count_0 8 rfl)
theorem dX5_count_15 : decode cX5_count 15 = .ok (.invokevirtual 142, 3) := fo_182 (fw_get da_cX5_count_0 9 rfl)
theorem dX5_count_18 : decode cX5_count 18 = .ok (.ifCond .eq 13, 3) := fo_153 (fw_get da_cX5_count_0 10 rfl) (by decide +kernel)
theorem dX5_count_21 : decode cX5_count 21 = .ok (.aload_n 0, 1) := fo_42 (fw_get da_cX5_count_0 11 rfl)
theorem dX5_count_22 : decode cX5_count 22 = .ok (.iload_n 1, 1) := fo_27 (fw_get da_cX5_count_0 12 rfl)
theorem dX5_count_23 : decode cX5_count 23 = .ok (.iload_n 2, 1) := fo_28 (fw_get da_cX5_count_0 13 rfl)
theorem dX5_count_24 : decode cX5_count 24 = .ok (.iload_n 3, 1) := fo_29 (fw_get da_cX5_count_0 14 rfl)
theorem dX5_count_25 : decode cX5_count 25 = .ok (.invokevirtual 149, 3) := fo_182 (fw_get da_cX5_count_0 15 rfl)
theorem dX5_count_28 : decode cX5_count 28 = .ok (.goto 4, 3) := fo_167 (fw_get da_cX5_count_0 16 rfl) (by decide +kernel)
theorem dX5_count_31 : decode cX5_count 31 = .ok (.iconst (-1), 1) := fo_2 (fw_get da_cX5_count_0 17 rfl)
theorem dX5_count_32 : decode cX5_count 32 = .ok (.ireturn, 1) := fo_172 (fw_get da_cX5_count_0 18 rfl)
def dt_cX5_place_0 : List (Nat × Nat × Nat × Nat) := [(0, 42, 0, 0), (1, 3, 0, 0), (2, 181, 2, 77), (5, 28, 0, 0), (6, 62, 0, 0), (7, 3, 0, 0), (8, 54, 1, 4), (10, 21, 1, 4), (12, 42, 0, 0), (13, 180, 2, 84), (16, 162, 2, 37), (19, 28, 0, 0), (20, 155, 2, 33), (23, 42, 0, 0), (24, 180, 2, 7), (27, 21, 1, 4), (29, 46, 0, 0), (30, 27, 0, 0), (31, 159, 2, 6), (34, 167, 2, 13)]
theorem da_cX5_place_0 : fw dt_cX5_place_0 0 cX5_place.data.toList = true := by decide +kernel
theorem dX5_place_0 : decode cX5_place 0 = .ok (.aload_n 0, 1) := fo_42 (fw_get da_cX5_place_0 0 rfl)
theorem dX5_place_1 : decode cX5_place 1 = .ok (.iconst 0, 1) := fo_3 (fw_get da_cX5_place_0 1 rfl)
theorem dX5_place_2 : decode cX5_place 2 = .ok (.putfield 77, 3) := fo_181 (fw_get da_cX5_place_0 2 rfl)
theorem dX5_place_5 : decode cX5_place 5 = .ok (.iload_n 2, 1) := fo_28 (fw_get da_cX5_place_0 3 rfl)
theorem dX5_place_6 : decode cX5_place 6 = .ok (.istore_n 3, 1) := fo_62 (fw_get da_cX5_place_0 4 rfl)
theorem dX5_place_7 : decode cX5_place 7 = .ok (.iconst 0, 1) := fo_3 (fw_get da_cX5_place_0 5 rfl)
theorem dX5_place_8 : decode cX5_place 8 = .ok (.istore 4, 2) := fo_54 (fw_get da_cX5_place_0 6 rfl)
theorem dX5_place_10 : decode cX5_place 10 = .ok (.iload 4, 2) := fo_21 (fw_get da_cX5_place_0 7 rfl)
theorem dX5_place_12 : decode cX5_place 12 = .ok (.aload_n 0, 1) := fo_42 (fw_get da_cX5_place_0 8 rfl)
theorem dX5_place_13 : decode cX5_place 13 = .ok (.getfield 84, 3) := fo_180 (fw_get da_cX5_place_0 9 rfl)
theorem dX5_place_16 : decode cX5_place 16 = .ok (.if_icmp .ge 37, 3) := fo_162 (fw_get da_cX5_place_0 10 rfl) (by decide +kernel)
theorem dX5_place_19 : decode cX5_place 19 = .ok (.iload_n 2, 1) := fo_28 (fw_get da_cX5_place_0 11 rfl)
theorem dX5_place_20 : decode cX5_place 20 = .ok (.ifCond .lt 33, 3) := fo_155 (fw_get da_cX5_place_0 12 rfl) (by decide +kernel)
theorem dX5_place_23 : decode cX5_place 23 = .ok (.aload_n 0, 1) := fo_42 (fw_get da_cX5_place_0 13 rfl)
theorem dX5_place_24 : decode cX5_place 24 = .ok (.getfield 7, 3) := fo_180 (fw_get da_cX5_place_0 14 rfl)
theorem dX5_place_27 : decode cX5_place 27 = .ok (.iload 4, 2) := fo_21 (fw_get da_cX5_place_0 15 rfl)
theorem dX5_place_29 : decode cX5_place 29 = .ok (.iaload, 1) := fo_46 (fw_get da_cX5_place_0 16 rfl)
theorem dX5_place_30 : decode cX5_place 30 = .ok (.iload_n 1, 1) := fo_27 (fw_get da_cX5_place_0 17 rfl)
theorem dX5_place_31 : decode cX5_place 31 = .ok (.if_icmp .eq 6, 3) := fo_159 (fw_get da_cX5_place_0 18 rfl) (by decide +kernel)
theorem dX5_place_34 : decode cX5_place 34 = .ok (.goto 13, 3) := fo_167 (fw_get da_cX5_place_0 19 rfl) (by decide +kernel)
def dt_cX5_place_1 : List (Nat × Nat × Nat × Nat) := [(37, 29, 0, 0), (38, 154, 2, 6), (41, 21, 1, 4), (43, 172, 0, 0), (44, 132, 2, 1023), (47, 132, 2, 1025), (50, 167, 2, 65496), (53, 2, 0, 0), (54, 172, 0, 0)]
theorem da_cX5_place_1 : fw dt_cX5_place_1 0 cX5_place.data.toList = true := by decide +kernel
theorem dX5_place_37 : decode cX5_place 37 = .ok (.iload_n 3, 1) := fo_29 (fw_get da_cX5_place_1 0 rfl)
theorem dX5_place_38 : decode cX5_place 38 = .ok (.ifCond .ne 6, 3) := fo_154 (fw_get da_cX5_place_1 1 rfl) (by decide +kernel)
theorem dX5_place_41 : decode cX5_place 41 = .ok (.iload 4, 2) := fo_21 (fw_get da_cX5_place_1 2 rfl)
theorem dX5_place_43 : decode cX5_place 43 = .ok (.ireturn, 1) := fo_172 (fw_get da_cX5_place_1 3 rfl)
theorem dX5_place_44 : decode cX5_place 44 = .ok (.iinc 3 (-1), 3) := fo_132 (fw_get da_cX5_place_1 4 rfl) rfl (by decide +kernel)
theorem dX5_place_47 : decode cX5_place 47 = .ok (.iinc 4 1, 3) := fo_132 (fw_get da_cX5_place_1 5 rfl) rfl (by decide +kernel)
theorem dX5_place_50 : decode cX5_place 50 = .ok (.goto (-40), 3) := fo_167 (fw_get da_cX5_place_1 6 rfl) (by decide +kernel)
theorem dX5_place_53 : decode cX5_place 53 = .ok (.iconst (-1), 1) := fo_2 (fw_get da_cX5_place_1 7 rfl)
theorem dX5_place_54 : decode cX5_place 54 = .ok (.ireturn, 1) := fo_172 (fw_get da_cX5_place_1 8 rfl)
set_option maxRecDepth 20000 in
theorem ggX5_values_X5_times : GoodIn wsX5_values wsX5_times := goodIn_r _ [8, 3, 9, 10, 11, 12, 13, 14, 15, 16, 17, 18, 19, 20, 21, 22, 23, 24, 25, 26, 27, 28, 29, 30, 31, 32, 33, 34, 35, 36, 37, 38] rfl (by decide +kernel)
set_option maxRecDepth 20000 in
theorem gX5_values_X5_times : GoodIn wsX5_values (wsV RX5 149 RX5 yX5_times wsX5_times) := goodIn_app (goodIn_r _ [4, 5, 6, 7] rfl (by decide +kernel)) ggX5_values_X5_times
def dt_cX5_values_0 : List (Nat × Nat × Nat × Nat) := [(0, 42, 0, 0), (1, 3, 0, 0), (2, 181, 2, 77), (5, 3, 0, 0), (6, 60, 0, 0), (7, 3, 0, 0), (8, 61, 0, 0), (9, 28, 0, 0), (10, 42, 0, 0), (11, 180, 2, 84), (14, 162, 2, 27), (17, 42, 0, 0), (18, 42, 0, 0), (19, 180, 2, 7), (22, 28, 0, 0), (23, 46, 0, 0), (24, 3, 0, 0), (25, 28, 0, 0), (26, 182, 2, 149), (29, 154, 2, 6)]
theorem da_cX5_values_0 : fw dt_cX5_values_0 0 cX5_values.data.toList = true := by decide +kernel
theorem dX5_values_0 : decode cX5_values 0 = .ok (.aload_n 0, 1) := fo_42 (fw_get da_cX5_values_0 0 rfl)
theorem dX5_values_1 : decode cX5_values 1 = .ok (.iconst 0, 1) := fo_3 (fw_get da_cX5_values_0 1 rfl)
theorem dX5_values_2 : decode cX5_values 2 = .ok (.putfield 77, 3) := fo_181 (fw_get da_cX5_values_0 2 rfl)
theorem dX5_values_5 : decode cX5_values 5 = .ok (.iconst 0, 1) := fo_3 (fw_get da_cX5_values_0 3 rfl)
theorem dX5_values_6 : decode cX5_values 6 = .ok (.istore_n 1, 1) := fo_60 (fw_get da_cX5_values_0 4 rfl)
theorem dX5_values_7 : decode cX5_values 7 = .ok (.iconst 0, 1) := fo_3 (fw_get da_cX5_values_0 5 rfl)
theorem dX5_values_8 : decode cX5_values 8 = .ok (.istore_n 2, 1) := fo_61 (fw_get da_cX5_values_0 6 rfl)
theorem dX5_values_9 : decode cX5_values 9 = .ok (.iload_n 2, 1) := fo_28 (fw_get da_cX5_values_0 7 rfl)
theorem dX5_values_10 : decode cX5_values 10 = .ok (.aload_n 0, 1) := fo_42 (fw_get da_cX5_values_0 8 rfl)
theorem dX5_values_11 : decode cX5_values 11 = .ok (.getfield 84, 3) := fo_180 (fw_get da_cX5_values_0 9 rfl)
theorem dX5_values_14 : decode cX5_values 14 = .ok (.if_icmp .ge 27, 3) := fo_162 (fw_get da_cX5_values_0 10 rfl) (by decide +kernel)
theorem dX5_values_17 : decode cX5_values 17 = .ok (.aload_n 0, 1) := fo_42 (fw_get da_cX5_values_0 11 rfl)
theorem dX5_values_18 : decode cX5_values 18 = .ok (.aload_n 0, 1) := fo_42 (fw_get da_cX5_values_0 12 rfl)
theorem dX5_values_19 : decode cX5_values 19 = .ok (.getfield 7, 3) := fo_180 (fw_get da_cX5_values_0 13 rfl)
theorem dX5_values_22 : decode cX5_values 22 = .ok (.iload_n 2, 1) := fo_28 (fw_get da_cX5_values_0 14 rfl)
theorem dX5_values_23 : decode cX5_values 23 = .ok (.iaload, 1) := fo_46 (fw_get da_cX5_values_0 15 rfl)
theorem dX5_values_24 : decode cX5_values 24 = .ok (.iconst 0, 1) := fo_3 (fw_get da_cX5_values_0 16 rfl)
theorem dX5_values_25 : decode cX5_values 25 = .ok (.iload_n 2, 1) := fo_28 (fw_get da_cX5_values_0 17 rfl)
theorem dX5_values_26 : decode cX5_values 26 = .ok (.invokevirtual 149, 3) := fo_182 (fw_get da_cX5_values_0 18 rfl)
theorem dX5_values_29 : decode cX5_values 29 = .ok (.ifCond .ne 6, 3) := fo_154 (fw_get da_cX5_values_0 19 rfl) (by decide +kernel)
def dt_cX5_values_1 : List (Nat × Nat × Nat × Nat) := [(32, 132, 2, 257), (35, 132, 2, 513), (38, 167, 2, 65507), (41, 27, 0, 0), (42, 172, 0, 0)]
theorem da_cX5_values_1 : fw dt_cX5_values_1 0 cX5_values.data.toList = true := by decide +kernel
theorem dX5_values_32 : decode cX5_values 32 = .ok (.iinc 1 1, 3) := fo_132 (fw_get da_cX5_values_1 0 rfl) rfl (by decide +kernel)
theorem dX5_values_35 : decode cX5_values 35 = .ok (.iinc 2 1, 3) := fo_132 (fw_get da_cX5_values_1 1 rfl) rfl (by decide +kernel)
theorem dX5_values_38 : decode cX5_values 38 = .ok (.goto (-29), 3) := fo_167 (fw_get da_cX5_values_1 2 rfl) (by decide +kernel)
theorem dX5_values_41 : decode cX5_values 41 = .ok (.iload_n 1, 1) := fo_27 (fw_get da_cX5_values_1 3 rfl)
theorem dX5_values_42 : decode cX5_values 42 = .ok (.ireturn, 1) := fo_172 (fw_get da_cX5_values_1 4 rfl)
def dt_cX5_isEnough_0 : List (Nat × Nat × Nat × Nat) := [(0, 27, 0, 0), (1, 42, 0, 0), (2, 180, 2, 13), (5, 4, 0, 0), (6, 96, 0, 0), (7, 104, 0, 0), (8, 28, 0, 0), (9, 161, 2, 7), (12, 4, 0, 0), (13, 167, 2, 4), (16, 3, 0, 0), (17, 172, 0, 0)]
theorem da_cX5_isEnough_0 : fw dt_cX5_isEnough_0 0 cX5_isEnough.data.toList = true := by decide +kernel
theorem dX5_isEnough_0 : decode cX5_isEnough 0 = .ok (.iload_n 1, 1) := fo_27 (fw_get da_cX5_isEnough_0 0 rfl)
theorem dX5_isEnough_1 : decode cX5_isEnough 1 = .ok (.aload_n 0, 1) := fo_42 (fw_get da_cX5_isEnough_0 1 rfl)
theorem dX5_isEnough_2 : decode cX5_isEnough 2 = .ok (.getfield 13, 3) := fo_180 (fw_get da_cX5_isEnough_0 2 rfl)
theorem dX5_isEnough_5 : decode cX5_isEnough 5 = .ok (.iconst 1, 1) := fo_4 (fw_get da_cX5_isEnough_0 3 rfl)
theorem dX5_isEnough_6 : decode cX5_isEnough 6 = .ok (.iadd, 1) := fo_96 (fw_get da_cX5_isEnough_0 4 rfl)
theorem dX5_isEnough_7 : decode cX5_isEnough 7 = .ok (.imul, 1) := fo_104 (fw_get da_cX5_isEnough_0 5 rfl)
theorem dX5_isEnough_8 : decode cX5_isEnough 8 = .ok (.iload_n 2, 1) := fo_28 (fw_get da_cX5_isEnough_0 6 rfl)
theorem dX5_isEnough_9 : decode cX5_isEnough 9 = .ok (.if_icmp .lt 7, 3) := fo_161 (fw_get da_cX5_isEnough_0 7 rfl) (by decide +kernel)
theorem dX5_isEnough_12 : decode cX5_isEnough 12 = .ok (.iconst 1, 1) := fo_4 (fw_get da_cX5_isEnough_0 8 rfl)
theorem dX5_isEnough_13 : decode cX5_isEnough 13 = .ok (.goto 4, 3) := fo_167 (fw_get da_cX5_isEnough_0 9 rfl) (by decide +kernel)
theorem dX5_isEnough_16 : decode cX5_isEnough 16 = .ok (.iconst 0, 1) := fo_3 (fw_get da_cX5_isEnough_0 10 rfl)
theorem dX5_isEnough_17 : decode cX5_isEnough 17 = .ok (.ireturn, 1) := fo_172 (fw_get da_cX5_isEnough_0 11 rfl)
set_option maxRecDepth 20000 in
theorem ggX5_majorityOf_X5_times : GoodIn wsX5_majorityOf wsX5_times := goodIn_r _ [7, 1, 8, 9, 10, 11, 12, 13, 14, 15, 16, 17, 18, 19, 20, 21, 22, 23, 24, 25, 26, 27, 28, 29, 30, 31, 32, 33, 34, 35, 36, 37] rfl (by decide +kernel)
set_option maxRecDepth 20000 in
theorem gX5_majorityOf_X5_times : GoodIn wsX5_majorityOf (wsV RX5 149 RX5 yX5_times wsX5_times) := goodIn_app (goodIn_r _ [3, 4, 5, 6] rfl (by decide +kernel)) ggX5_majorityOf_X5_times
def dt_cX5_majorityOf_0 : List (Nat × Nat × Nat × Nat) := [(0, 27, 0, 0), (1, 62, 0, 0), (2, 29, 0, 0), (3, 28, 0, 0), (4, 162, 2, 36), (7, 5, 0, 0), (8, 42, 0, 0), (9, 42, 0, 0), (10, 180, 2, 7), (13, 29, 0, 0), (14, 46, 0, 0), (15, 27, 0, 0), (16, 28, 0, 0), (17, 182, 2, 149), (20, 104, 0, 0), (21, 28, 0, 0), (22, 27, 0, 0), (23, 100, 0, 0), (24, 164, 2, 10), (27, 42, 0, 0)]
theorem da_cX5_majorityOf_0 : fw dt_cX5_majorityOf_0 0 cX5_majorityOf.data.toList = true := by decide +kernel
theorem dX5_majorityOf_0 : decode cX5_majorityOf 0 = .ok (.iload_n 1, 1) := fo_27 (fw_get da_cX5_majorityOf_0 0 rfl)
theorem dX5_majorityOf_1 : decode cX5_majorityOf 1 = .ok (.istore_n 3, 1) := fo_62 (fw_get da_cX5_majorityOf_0 1 rfl)
theorem dX5_majorityOf_2 : decode cX5_majorityOf 2 = .ok (.iload_n 3, 1) := fo_29 (fw_get da_cX5_majorityOf_0 2 rfl)
theorem dX5_majorityOf_3 : decode cX5_majorityOf 3 = .ok (.iload_n 2, 1) := fo_28 (fw_get da_cX5_majorityOf_0 3 rfl)
theorem dX5_majorityOf_4 : decode cX5_majorityOf 4 = .ok (.if_icmp .ge 36, 3) := fo_162 (fw_get da_cX5_majorityOf_0 4 rfl) (by decide +kernel)
theorem dX5_majorityOf_7 : decode cX5_majorityOf 7 = .ok (.iconst 2, 1) := fo_5 (fw_get da_cX5_majorityOf_0 5 rfl)
theorem dX5_majorityOf_8 : decode cX5_majorityOf 8 = .ok (.aload_n 0, 1) := fo_42 (fw_get da_cX5_majorityOf_0 6 rfl)
theorem dX5_majorityOf_9 : decode cX5_majorityOf 9 = .ok (.aload_n 0, 1) := fo_42 (fw_get da_cX5_majorityOf_0 7 rfl)
theorem dX5_majorityOf_10 : decode cX5_majorityOf 10 = .ok (.getfield 7, 3) := fo_180 (fw_get da_cX5_majorityOf_0 8 rfl)
theorem dX5_majorityOf_13 : decode cX5_majorityOf 13 = .ok (.iload_n 3, 1) := fo_29 (fw_get da_cX5_majorityOf_0 9 rfl)
theorem dX5_majorityOf_14 : decode cX5_majorityOf 14 = .ok (.iaload, 1) := fo_46 (fw_get da_cX5_majorityOf_0 10 rfl)
theorem dX5_majorityOf_15 : decode cX5_majorityOf 15 = .ok (.iload_n 1, 1) := fo_27 (fw_get da_cX5_majorityOf_0 11 rfl)
theorem dX5_majorityOf_16 : decode cX5_majorityOf 16 = .ok (.iload_n 2, 1) := fo_28 (fw_get da_cX5_majorityOf_0 12 rfl)
theorem dX5_majorityOf_17 : decode cX5_majorityOf 17 = .ok (.invokevirtual 149, 3) := fo_182 (fw_get da_cX5_majorityOf_0 13 rfl)
theorem dX5_majorityOf_20 : decode cX5_majorityOf 20 = .ok (.imul, 1) := fo_104 (fw_get da_cX5_majorityOf_0 14 rfl)
theorem dX5_majorityOf_21 : decode cX5_majorityOf 21 = .ok (.iload_n 2, 1) := fo_28 (fw_get da_cX5_majorityOf_0 15 rfl)
theorem dX5_majorityOf_22 : decode cX5_majorityOf 22 = .ok (.iload_n 1, 1) := fo_27 (fw_get da_cX5_majorityOf_0 16 rfl)
theorem dX5_majorityOf_23 : decode cX5_majorityOf 23 = .ok (.isub, 1) := fo_100 (fw_get da_cX5_majorityOf_0 17 rfl)
theorem dX5_majorityOf_24 : decode cX5_majorityOf 24 = .ok (.if_icmp .le 10, 3) := fo_164 (fw_get da_cX5_majorityOf_0 18 rfl) (by decide +kernel)
theorem dX5_majorityOf_27 : decode cX5_majorityOf 27 = .ok (.aload_n 0, 1) := fo_42 (fw_get da_cX5_majorityOf_0 19 rfl)
def dt_cX5_majorityOf_1 : List (Nat × Nat × Nat × Nat) := [(28, 180, 2, 7), (31, 29, 0, 0), (32, 46, 0, 0), (33, 172, 0, 0), (34, 132, 2, 769), (37, 167, 2, 65501), (40, 18, 1, 148), (42, 172, 0, 0)]
theorem da_cX5_majorityOf_1 : fw dt_cX5_majorityOf_1 0 cX5_majorityOf.data.toList = true := by decide +kernel
theorem dX5_majorityOf_28 : decode cX5_majorityOf 28 = .ok (.getfield 7, 3) := fo_180 (fw_get da_cX5_majorityOf_1 0 rfl)
theorem dX5_majorityOf_31 : decode cX5_majorityOf 31 = .ok (.iload_n 3, 1) := fo_29 (fw_get da_cX5_majorityOf_1 1 rfl)
theorem dX5_majorityOf_32 : decode cX5_majorityOf 32 = .ok (.iaload, 1) := fo_46 (fw_get da_cX5_majorityOf_1 2 rfl)
theorem dX5_majorityOf_33 : decode cX5_majorityOf 33 = .ok (.ireturn, 1) := fo_172 (fw_get da_cX5_majorityOf_1 3 rfl)
theorem dX5_majorityOf_34 : decode cX5_majorityOf 34 = .ok (.iinc 3 1, 3) := fo_132 (fw_get da_cX5_majorityOf_1 4 rfl) rfl (by decide +kernel)
theorem dX5_majorityOf_37 : decode cX5_majorityOf 37 = .ok (.goto (-35), 3) := fo_167 (fw_get da_cX5_majorityOf_1 5 rfl) (by decide +kernel)
theorem dX5_majorityOf_40 : decode cX5_majorityOf 40 = .ok (.ldc 148, 2) := fo_18 (fw_get da_cX5_majorityOf_1 6 rfl)
theorem dX5_majorityOf_42 : decode cX5_majorityOf 42 = .ok (.ireturn, 1) := fo_172 (fw_get da_cX5_majorityOf_1 7 rfl)
set_option maxRecDepth 20000 in
theorem ggX5_majority_X5_isRange : GoodIn wsX5_majority wsX5_isRange := goodIn_r _ [7, 8, 18, 19, 20, 21, 22, 23, 24, 25, 26, 27, 28, 29, 30, 31, 32, 33, 34, 35, 36, 37, 38, 39, 40, 41, 42, 43, 44, 45, 46, 47] rfl (by decide +kernel)
set_option maxRecDepth 20000 in
theorem gX5_majority_X5_isRange : GoodIn wsX5_majority (wsV RX5 142 RX5 yX5_isRange wsX5_isRange) := goodIn_app (goodIn_r _ [3, 4, 5, 6] rfl (by decide +kernel)) ggX5_majority_X5_isRange
set_option maxRecDepth 20000 in
theorem ggX5_majority_X5_majorityOf : GoodIn wsX5_majority wsX5_majorityOf := goodIn_r _ [12, 13, 2, 14, 15, 16, 6, 17, 18, 19, 20, 21, 22, 23, 24, 25, 26, 27, 28, 29, 30, 31, 32, 33, 34, 35, 36, 37, 38, 39, 40, 41, 42, 43, 44, 45, 46, 47] rfl (by decide +kernel)
set_option maxRecDepth 20000 in
theorem gX5_majority_X5_majorityOf : GoodIn wsX5_majority (wsV RX5 194 RX5 yX5_majorityOf wsX5_majorityOf) := goodIn_app (goodIn_r _ [9, 10, 11, 6] rfl (by decide +kernel)) ggX5_majority_X5_majorityOf
def dt_cX5_majority_0 : List (Nat × Nat × Nat × Nat) := [(0, 42, 0, 0), (1, 3, 0, 0), (2, 181, 2, 77), (5, 42, 0, 0), (6, 27, 0, 0), (7, 28, 0, 0), (8, 182, 2, 142), (11, 153, 2, 12), (14, 42, 0, 0), (15, 27, 0, 0), (16, 28, 0, 0), (17, 182, 2, 194), (20, 167, 2, 5), (23, 18, 1, 148), (25, 172, 0, 0)]
theorem da_cX5_majority_0 : fw dt_cX5_majority_0 0 cX5_majority.data.toList = true := by decide +kernel
theorem dX5_majority_0 : decode cX5_majority 0 = .ok (.aload_n 0, 1) := fo_42 (fw_get da_cX5_majority_0 0 rfl)
theorem dX5_majority_1 : decode cX5_majority 1 = .ok (.iconst 0, 1) := fo_3 (fw_get da_cX5_majority_0 1 rfl)
theorem dX5_majority_2 : decode cX5_majority 2 = .ok (.putfield 77, 3) := fo_181 (fw_get da_cX5_majority_0 2 rfl)
theorem dX5_majority_5 : decode cX5_majority 5 = .ok (.aload_n 0, 1) := fo_42 (fw_get da_cX5_majority_0 3 rfl)
theorem dX5_majority_6 : decode cX5_majority 6 = .ok (.iload_n 1, 1) := fo_27 (fw_get da_cX5_majority_0 4 rfl)
theorem dX5_majority_7 : decode cX5_majority 7 = .ok (.iload_n 2, 1) := fo_28 (fw_get da_cX5_majority_0 5 rfl)
theorem dX5_majority_8 : decode cX5_majority 8 = .ok (.invokevirtual 142, 3) := fo_182 (fw_get da_cX5_majority_0 6 rfl)
theorem dX5_majority_11 : decode cX5_majority 11 = .ok (.ifCond .eq 12, 3) := fo_153 (fw_get da_cX5_majority_0 7 rfl) (by decide +kernel)
theorem dX5_majority_14 : decode cX5_majority 14 = .ok (.aload_n 0, 1) := fo_42 (fw_get da_cX5_majority_0 8 rfl)
theorem dX5_majority_15 : decode cX5_majority 15 = .ok (.iload_n 1, 1) := fo_27 (fw_get da_cX5_majority_0 9 rfl)
theorem dX5_majority_16 : decode cX5_majority 16 = .ok (.iload_n 2, 1) := fo_28 (fw_get da_cX5_majority_0 10 rfl)
theorem dX5_majority_17 : decode cX5_majority 17 = .ok (.invokevirtual 194, 3) := fo_182 (fw_get da_cX5_majority_0 11 rfl)
theorem dX5_majority_20 : decode cX5_majority 20 = .ok (.goto 5, 3) := fo_167 (fw_get da_cX5_majority_0 12 rfl) (by decide +kernel)
theorem dX5_majority_23 : decode cX5_majority 23 = .ok (.ldc 148, 2) := fo_18 (fw_get da_cX5_majority_0 13 rfl)
theorem dX5_majority_25 : decode cX5_majority 25 = .ok (.ireturn, 1) := fo_172 (fw_get da_cX5_majority_0 14 rfl)
set_option maxRecDepth 20000 in
theorem ggX5_margin_X5_isValue : GoodIn wsX5_margin wsX5_isValue := goodIn_r _ [6, 7, 8, 5, 9] rfl (by decide +kernel)
set_option maxRecDepth 20000 in
theorem gX5_margin_X5_isValue : GoodIn wsX5_margin (va_wsS RX5 132 yX5_isValue wsX5_isValue) := goodIn_app (goodIn_r _ [3, 4, 5] rfl (by decide +kernel)) ggX5_margin_X5_isValue
set_option maxRecDepth 20000 in
theorem ggX5_margin_X5_isRange : GoodIn wsX5_margin wsX5_isRange := goodIn_r _ [13, 14, 20, 21, 22, 23, 24, 25, 26, 27, 28, 29, 30, 31, 32, 33, 34, 35, 36, 37, 38, 39, 40, 41, 42, 43, 44, 45, 46, 47, 48, 49] rfl (by decide +kernel)
set_option maxRecDepth 20000 in
theorem gX5_margin_X5_isRange : GoodIn wsX5_margin (wsV RX5 142 RX5 yX5_isRange wsX5_isRange) := goodIn_app (goodIn_r _ [10, 11, 12, 5] rfl (by decide +kernel)) ggX5_margin_X5_isRange
set_option maxRecDepth 20000 in
theorem ggX5_margin_X5_times : GoodIn wsX5_margin wsX5_times := goodIn_r _ [18, 19, 20, 21, 22, 23, 24, 25, 26, 27, 28, 29, 30, 31, 32, 33, 34, 35, 36, 37, 38, 39, 40, 41, 42, 43, 44, 45, 46, 47, 48, 49] rfl (by decide +kernel)
set_option maxRecDepth 20000 in
theorem gX5_margin_X5_times : GoodIn wsX5_margin (wsV RX5 149 RX5 yX5_times wsX5_times) := goodIn_app (goodIn_r _ [15, 16, 17, 5] rfl (by decide +kernel)) ggX5_margin_X5_times
def dt_cX5_margin_0 : List (Nat × Nat × Nat × Nat) := [(0, 42, 0, 0), (1, 3, 0, 0), (2, 181, 2, 77), (5, 27, 0, 0), (6, 184, 2, 132), (9, 153, 2, 28), (12, 42, 0, 0), (13, 28, 0, 0), (14, 29, 0, 0), (15, 182, 2, 142), (18, 153, 2, 19), (21, 5, 0, 0), (22, 42, 0, 0), (23, 27, 0, 0), (24, 28, 0, 0), (25, 29, 0, 0), (26, 182, 2, 149), (29, 104, 0, 0), (30, 29, 0, 0), (31, 28, 0, 0)]
theorem da_cX5_margin_0 : fw dt_cX5_margin_0 0 cX5_margin.data.toList = true := by decide +kernel
theorem dX5_margin_0 : decode cX5_margin 0 = .ok (.aload_n 0, 1) := fo_42 (fw_get da_cX5_margin_0 0 rfl)
theorem dX5_margin_1 : decode cX5_margin 1 = .ok (.iconst 0, 1) := fo_3 (fw_get da_cX5_margin_0 1 rfl)
theorem dX5_margin_2 : decode cX5_margin 2 = .ok (.putfield 77, 3) := fo_181 (fw_get da_cX5_margin_0 2 rfl)
theorem dX5_margin_5 : decode cX5_margin 5 = .ok (.iload_n 1, 1) := fo_27 (fw_get da_cX5_margin_0 3 rfl)
theorem dX5_margin_6 : decode cX5_margin 6 = .ok (.invokestatic 132, 3) := fo_184 (fw_get da_cX5_margin_0 4 rfl)
theorem dX5_margin_9 : decode cX5_margin 9 = .ok (.ifCond .eq 28, 3) := fo_153 (fw_get da_cX5_margin_0 5 rfl) (by decide +kernel)
theorem dX5_margin_12 : decode cX5_margin 12 = .ok (.aload_n 0, 1) := fo_42 (fw_get da_cX5_margin_0 6 rfl)
theorem dX5_margin_13 : decode cX5_margin 13 = .ok (.iload_n 2, 1) := fo_28 (fw_get da_cX5_margin_0 7 rfl)
theorem dX5_margin_14 : decode cX5_margin 14 = .ok (.iload_n 3, 1) := fo_29 (fw_get da_cX5_margin_0 8 rfl)
theorem dX5_margin_15 : decode cX5_margin 15 = .ok (.invokevirtual 142, 3) := fo_182 (fw_get da_cX5_margin_0 9 rfl)
theorem dX5_margin_18 : decode cX5_margin 18 = .ok (.ifCond .eq 19, 3) := fo_153 (fw_get da_cX5_margin_0 10 rfl) (by decide +kernel)
theorem dX5_margin_21 : decode cX5_margin 21 = .ok (.iconst 2, 1) := fo_5 (fw_get da_cX5_margin_0 11 rfl)
theorem dX5_margin_22 : decode cX5_margin 22 = .ok (.aload_n 0, 1) := fo_42 (fw_get da_cX5_margin_0 12 rfl)
theorem dX5_margin_23 : decode cX5_margin 23 = .ok (.iload_n 1, 1) := fo_27 (fw_get da_cX5_margin_0 13 rfl)
theorem dX5_margin_24 : decode cX5_margin 24 = .ok (.iload_n 2, 1) := fo_28 (fw_get da_cX5_margin_0 14 rfl)
theorem dX5_margin_25 : decode cX5_margin 25 = .ok (.iload_n 3, 1) := fo_29 (fw_get da_cX5_margin_0 15 rfl)
theorem dX5_margin_26 : decode cX5_margin 26 = .ok (.invokevirtual 149, 3) := fo_182 (fw_get da_cX5_margin_0 16 rfl)
theorem dX5_margin_29 : decode cX5_margin 29 = .ok (.imul, 1) := fo_104 (fw_get da_cX5_margin_0 17 rfl)
theorem dX5_margin_30 : decode cX5_margin 30 = .ok (.iload_n 3, 1) := fo_29 (fw_get da_cX5_margin_0 18 rfl)
theorem dX5_margin_31 : decode cX5_margin 31 = .ok (.iload_n 2, 1) := fo_28 (fw_get da_cX5_margin_0 19 rfl)
def dt_cX5_margin_1 : List (Nat × Nat × Nat × Nat) := [(32, 100, 0, 0), (33, 100, 0, 0), (34, 167, 2, 5), (37, 18, 1, 148), (39, 172, 0, 0)]
theorem da_cX5_margin_1 : fw dt_cX5_margin_1 0 cX5_margin.data.toList = true := by decide +kernel
theorem dX5_margin_32 : decode cX5_margin 32 = .ok (.isub, 1) := fo_100 (fw_get da_cX5_margin_1 0 rfl)
theorem dX5_margin_33 : decode cX5_margin 33 = .ok (.isub, 1) := fo_100 (fw_get da_cX5_margin_1 1 rfl)
theorem dX5_margin_34 : decode cX5_margin 34 = .ok (.goto 5, 3) := fo_167 (fw_get da_cX5_margin_1 2 rfl) (by decide +kernel)
theorem dX5_margin_37 : decode cX5_margin 37 = .ok (.ldc 148, 2) := fo_18 (fw_get da_cX5_margin_1 3 rfl)
theorem dX5_margin_39 : decode cX5_margin 39 = .ok (.ireturn, 1) := fo_172 (fw_get da_cX5_margin_1 4 rfl)
set_option maxRecDepth 20000 in
theorem ggX5_longest_X5_isValue : GoodIn wsX5_longest wsX5_isValue := goodIn_r _ [7, 8, 9, 6, 10] rfl (by decide +kernel)
set_option maxRecDepth 20000 in
theorem gX5_longest_X5_isValue : GoodIn wsX5_longest (va_wsS RX5 132 yX5_isValue wsX5_isValue) := goodIn_app (goodIn_r _ [4, 5, 6] rfl (by decide +kernel)) ggX5_longest_X5_isValue
set_option maxRecDepth 20000 in
theorem ggX5_longest_X5_isShare : GoodIn wsX5_longest wsX5_isShare := goodIn_r _ [13, 8, 9, 6, 10] rfl (by decide +kernel)
set_option maxRecDepth 20000 in
theorem gX5_longest_X5_isShare : GoodIn wsX5_longest (va_wsS RX5 184 yX5_isShare wsX5_isShare) := goodIn_app (goodIn_r _ [11, 12, 6] rfl (by decide +kernel)) ggX5_longest_X5_isShare
set_option maxRecDepth 20000 in
theorem ggX5_longest_X5_within : GoodIn wsX5_longest wsX5_within := goodIn_r _ [10] rfl (by decide +kernel)
set_option maxRecDepth 20000 in
theorem gX5_longest_X5_within : GoodIn wsX5_longest (va_wsS RX5 80 yX5_within wsX5_within) := goodIn_app (goodIn_r _ [8, 9, 6] rfl (by decide +kernel)) ggX5_longest_X5_within
def dt_cX5_longest_0 : List (Nat × Nat × Nat × Nat) := [(0, 42, 0, 0), (1, 3, 0, 0), (2, 181, 2, 77), (5, 27, 0, 0), (6, 184, 2, 132), (9, 153, 2, 21), (12, 28, 0, 0), (13, 29, 0, 0), (14, 184, 2, 184), (17, 153, 2, 13), (20, 21, 1, 4), (22, 3, 0, 0), (23, 4, 0, 0), (24, 184, 2, 80), (27, 154, 2, 5), (30, 2, 0, 0), (31, 172, 0, 0), (32, 2, 0, 0), (33, 54, 1, 5), (35, 2, 0, 0)]
theorem da_cX5_longest_0 : fw dt_cX5_longest_0 0 cX5_longest.data.toList = true := by decide +kernel
theorem dX5_longest_0 : decode cX5_longest 0 = .ok (.aload_n 0, 1) := fo_42 (fw_get da_cX5_longest_0 0 rfl)
theorem dX5_longest_1 : decode cX5_longest 1 = .ok (.iconst 0, 1) := fo_3 (fw_get da_cX5_longest_0 1 rfl)
theorem dX5_longest_2 : decode cX5_longest 2 = .ok (.putfield 77, 3) := fo_181 (fw_get da_cX5_longest_0 2 rfl)
theorem dX5_longest_5 : decode cX5_longest 5 = .ok (.iload_n 1, 1) := fo_27 (fw_get da_cX5_longest_0 3 rfl)
theorem dX5_longest_6 : decode cX5_longest 6 = .ok (.invokestatic 132, 3) := fo_184 (fw_get da_cX5_longest_0 4 rfl)
theorem dX5_longest_9 : decode cX5_longest 9 = .ok (.ifCond .eq 21, 3) := fo_153 (fw_get da_cX5_longest_0 5 rfl) (by decide +kernel)
theorem dX5_longest_12 : decode cX5_longest 12 = .ok (.iload_n 2, 1) := fo_28 (fw_get da_cX5_longest_0 6 rfl)
theorem dX5_longest_13 : decode cX5_longest 13 = .ok (.iload_n 3, 1) := fo_29 (fw_get da_cX5_longest_0 7 rfl)
theorem dX5_longest_14 : decode cX5_longest 14 = .ok (.invokestatic 184, 3) := fo_184 (fw_get da_cX5_longest_0 8 rfl)
theorem dX5_longest_17 : decode cX5_longest 17 = .ok (.ifCond .eq 13, 3) := fo_153 (fw_get da_cX5_longest_0 9 rfl) (by decide +kernel)
theorem dX5_longest_20 : decode cX5_longest 20 = .ok (.iload 4, 2) := fo_21 (fw_get da_cX5_longest_0 10 rfl)
theorem dX5_longest_22 : decode cX5_longest 22 = .ok (.iconst 0, 1) := fo_3 (fw_get da_cX5_longest_0 11 rfl)
theorem dX5_longest_23 : decode cX5_longest 23 = .ok (.iconst 1, 1) := fo_4 (fw_get da_cX5_longest_0 12 rfl)
theorem dX5_longest_24 : decode cX5_longest 24 = .ok (.invokestatic 80, 3) := fo_184 (fw_get da_cX5_longest_0 13 rfl)
theorem dX5_longest_27 : decode cX5_longest 27 = .ok (.ifCond .ne 5, 3) := fo_154 (fw_get da_cX5_longest_0 14 rfl) (by decide +kernel)
theorem dX5_longest_30 : decode cX5_longest 30 = .ok (.iconst (-1), 1) := fo_2 (fw_get da_cX5_longest_0 15 rfl)
theorem dX5_longest_31 : decode cX5_longest 31 = .ok (.ireturn, 1) := fo_172 (fw_get da_cX5_longest_0 16 rfl)
theorem dX5_longest_32 : decode cX5_longest 32 = .ok (.iconst (-1), 1) := fo_2 (fw_get da_cX5_longest_0 17 rfl)
theorem dX5_longest_33 : decode cX5_longest 33 = .ok (.istore 5, 2) := fo_54 (fw_get da_cX5_longest_0 18 rfl)
theorem dX5_longest_35 : decode cX5_longest 35 = .ok (.iconst (-1), 1) := fo_2 (fw_get da_cX5_longest_0 19 rfl)
def dt_cX5_longest_1 : List (Nat × Nat × Nat × Nat) := [(36, 54, 1, 6), (38, 3, 0, 0), (39, 54, 1, 7), (41, 21, 1, 7), (43, 42, 0, 0), (44, 180, 2, 84), (47, 162, 2, 92), (50, 3, 0, 0), (51, 54, 1, 8), (53, 21, 1, 7), (55, 4, 0, 0), (56, 96, 0, 0), (57, 54, 1, 9), (59, 21, 1, 9), (61, 42, 0, 0), (62, 180, 2, 84), (65, 163, 2, 68), (68, 42, 0, 0), (69, 180, 2, 7), (72, 21, 1, 9)]
theorem da_cX5_longest_1 : fw dt_cX5_longest_1 0 cX5_longest.data.toList = true := by decide +kernel
theorem dX5_longest_36 : decode cX5_longest 36 = .ok (.istore 6, 2) := fo_54 (fw_get da_cX5_longest_1 0 rfl)
theorem dX5_longest_38 : decode cX5_longest 38 = .ok (.iconst 0, 1) := fo_3 (fw_get da_cX5_longest_1 1 rfl)
theorem dX5_longest_39 : decode cX5_longest 39 = .ok (.istore 7, 2) := fo_54 (fw_get da_cX5_longest_1 2 rfl)
theorem dX5_longest_41 : decode cX5_longest 41 = .ok (.iload 7, 2) := fo_21 (fw_get da_cX5_longest_1 3 rfl)
theorem dX5_longest_43 : decode cX5_longest 43 = .ok (.aload_n 0, 1) := fo_42 (fw_get da_cX5_longest_1 4 rfl)
theorem dX5_longest_44 : decode cX5_longest 44 = .ok (.getfield 84, 3) := fo_180 (fw_get da_cX5_longest_1 5 rfl)
theorem dX5_longest_47 : decode cX5_longest 47 = .ok (.if_icmp .ge 92, 3) := fo_162 (fw_get da_cX5_longest_1 6 rfl) (by decide +kernel)
theorem dX5_longest_50 : decode cX5_longest 50 = .ok (.iconst 0, 1) := fo_3 (fw_get da_cX5_longest_1 7 rfl)
theorem dX5_longest_51 : decode cX5_longest 51 = .ok (.istore 8, 2) := fo_54 (fw_get da_cX5_longest_1 8 rfl)
theorem dX5_longest_53 : decode cX5_longest 53 = .ok (.iload 7, 2) := fo_21 (fw_get da_cX5_longest_1 9 rfl)
theorem dX5_longest_55 : decode cX5_longest 55 = .ok (.iconst 1, 1) := fo_4 (fw_get da_cX5_longest_1 10 rfl)
theorem dX5_longest_56 : decode cX5_longest 56 = .ok (.iadd, 1) := fo_96 (fw_get da_cX5_longest_1 11 rfl)
theorem dX5_longest_57 : decode cX5_longest 57 = .ok (.istore 9, 2) := fo_54 (fw_get da_cX5_longest_1 12 rfl)
theorem dX5_longest_59 : decode cX5_longest 59 = .ok (.iload 9, 2) := fo_21 (fw_get da_cX5_longest_1 13 rfl)
theorem dX5_longest_61 : decode cX5_longest 61 = .ok (.aload_n 0, 1) := fo_42 (fw_get da_cX5_longest_1 14 rfl)
theorem dX5_longest_62 : decode cX5_longest 62 = .ok (.getfield 84, 3) := fo_180 (fw_get da_cX5_longest_1 15 rfl)
theorem dX5_longest_65 : decode cX5_longest 65 = .ok (.if_icmp .gt 68, 3) := fo_163 (fw_get da_cX5_longest_1 16 rfl) (by decide +kernel)
theorem dX5_longest_68 : decode cX5_longest 68 = .ok (.aload_n 0, 1) := fo_42 (fw_get da_cX5_longest_1 17 rfl)
theorem dX5_longest_69 : decode cX5_longest 69 = .ok (.getfield 7, 3) := fo_180 (fw_get da_cX5_longest_1 18 rfl)
theorem dX5_longest_72 : decode cX5_longest 72 = .ok (.iload 9, 2) := fo_21 (fw_get da_cX5_longest_1 19 rfl)
def dt_cX5_longest_2 : List (Nat × Nat × Nat × Nat) := [(74, 4, 0, 0), (75, 100, 0, 0), (76, 46, 0, 0), (77, 27, 0, 0), (78, 160, 2, 6), (81, 132, 2, 2049), (84, 21, 1, 8), (86, 29, 0, 0), (87, 104, 0, 0), (88, 28, 0, 0), (89, 21, 1, 9), (91, 21, 1, 7), (93, 100, 0, 0), (94, 104, 0, 0), (95, 164, 2, 32), (98, 21, 1, 5), (100, 155, 2, 19), (103, 21, 1, 9), (105, 21, 1, 7), (107, 100, 0, 0)]
theorem da_cX5_longest_2 : fw dt_cX5_longest_2 0 cX5_longest.data.toList = true := by decide +kernel
theorem dX5_longest_74 : decode cX5_longest 74 = .ok (.iconst 1, 1) := fo_4 (fw_get da_cX5_longest_2 0 rfl)
theorem dX5_longest_75 : decode cX5_longest 75 = .ok (.isub, 1) := fo_100 (fw_get da_cX5_longest_2 1 rfl)
theorem dX5_longest_76 : decode cX5_longest 76 = .ok (.iaload, 1) := fo_46 (fw_get da_cX5_longest_2 2 rfl)
theorem dX5_longest_77 : decode cX5_longest 77 = .ok (.iload_n 1, 1) := fo_27 (fw_get da_cX5_longest_2 3 rfl)
theorem dX5_longest_78 : decode cX5_longest 78 = .ok (.if_icmp .ne 6, 3) := fo_160 (fw_get da_cX5_longest_2 4 rfl) (by decide +kernel)
theorem dX5_longest_81 : decode cX5_longest 81 = .ok (.iinc 8 1, 3) := fo_132 (fw_get da_cX5_longest_2 5 rfl) rfl (by decide +kernel)
theorem dX5_longest_84 : decode cX5_longest 84 = .ok (.iload 8, 2) := fo_21 (fw_get da_cX5_longest_2 6 rfl)
theorem dX5_longest_86 : decode cX5_longest 86 = .ok (.iload_n 3, 1) := fo_29 (fw_get da_cX5_longest_2 7 rfl)
theorem dX5_longest_87 : decode cX5_longest 87 = .ok (.imul, 1) := fo_104 (fw_get da_cX5_longest_2 8 rfl)
theorem dX5_longest_88 : decode cX5_longest 88 = .ok (.iload_n 2, 1) := fo_28 (fw_get da_cX5_longest_2 9 rfl)
theorem dX5_longest_89 : decode cX5_longest 89 = .ok (.iload 9, 2) := fo_21 (fw_get da_cX5_longest_2 10 rfl)
theorem dX5_longest_91 : decode cX5_longest 91 = .ok (.iload 7, 2) := fo_21 (fw_get da_cX5_longest_2 11 rfl)
theorem dX5_longest_93 : decode cX5_longest 93 = .ok (.isub, 1) := fo_100 (fw_get da_cX5_longest_2 12 rfl)
theorem dX5_longest_94 : decode cX5_longest 94 = .ok (.imul, 1) := fo_104 (fw_get da_cX5_longest_2 13 rfl)
theorem dX5_longest_95 : decode cX5_longest 95 = .ok (.if_icmp .le 32, 3) := fo_164 (fw_get da_cX5_longest_2 14 rfl) (by decide +kernel)
theorem dX5_longest_98 : decode cX5_longest 98 = .ok (.iload 5, 2) := fo_21 (fw_get da_cX5_longest_2 15 rfl)
theorem dX5_longest_100 : decode cX5_longest 100 = .ok (.ifCond .lt 19, 3) := fo_155 (fw_get da_cX5_longest_2 16 rfl) (by decide +kernel)
theorem dX5_longest_103 : decode cX5_longest 103 = .ok (.iload 9, 2) := fo_21 (fw_get da_cX5_longest_2 17 rfl)
theorem dX5_longest_105 : decode cX5_longest 105 = .ok (.iload 7, 2) := fo_21 (fw_get da_cX5_longest_2 18 rfl)
theorem dX5_longest_107 : decode cX5_longest 107 = .ok (.isub, 1) := fo_100 (fw_get da_cX5_longest_2 19 rfl)
def dt_cX5_longest_3 : List (Nat × Nat × Nat × Nat) := [(108, 21, 1, 6), (110, 21, 1, 5), (112, 100, 0, 0), (113, 163, 2, 6), (116, 167, 2, 11), (119, 21, 1, 7), (121, 54, 1, 5), (123, 21, 1, 9), (125, 54, 1, 6), (127, 132, 2, 2305), (130, 167, 2, 65465), (133, 132, 2, 1793), (136, 167, 2, 65441), (139, 21, 1, 4), (141, 154, 2, 8), (144, 21, 1, 5), (146, 167, 2, 5), (149, 21, 1, 6), (151, 172, 0, 0)]
theorem da_cX5_longest_3 : fw dt_cX5_longest_3 0 cX5_longest.data.toList = true := by decide +kernel
theorem dX5_longest_108 : decode cX5_longest 108 = .ok (.iload 6, 2) := fo_21 (fw_get da_cX5_longest_3 0 rfl)
theorem dX5_longest_110 : decode cX5_longest 110 = .ok (.iload 5, 2) := fo_21 (fw_get da_cX5_longest_3 1 rfl)
theorem dX5_longest_112 : decode cX5_longest 112 = .ok (.isub, 1) := fo_100 (fw_get da_cX5_longest_3 2 rfl)
theorem dX5_longest_113 : decode cX5_longest 113 = .ok (.if_icmp .gt 6, 3) := fo_163 (fw_get da_cX5_longest_3 3 rfl) (by decide +kernel)
theorem dX5_longest_116 : decode cX5_longest 116 = .ok (.goto 11, 3) := fo_167 (fw_get da_cX5_longest_3 4 rfl) (by decide +kernel)
theorem dX5_longest_119 : decode cX5_longest 119 = .ok (.iload 7, 2) := fo_21 (fw_get da_cX5_longest_3 5 rfl)
theorem dX5_longest_121 : decode cX5_longest 121 = .ok (.istore 5, 2) := fo_54 (fw_get da_cX5_longest_3 6 rfl)
theorem dX5_longest_123 : decode cX5_longest 123 = .ok (.iload 9, 2) := fo_21 (fw_get da_cX5_longest_3 7 rfl)
theorem dX5_longest_125 : decode cX5_longest 125 = .ok (.istore 6, 2) := fo_54 (fw_get da_cX5_longest_3 8 rfl)
theorem dX5_longest_127 : decode cX5_longest 127 = .ok (.iinc 9 1, 3) := fo_132 (fw_get da_cX5_longest_3 9 rfl) rfl (by decide +kernel)
theorem dX5_longest_130 : decode cX5_longest 130 = .ok (.goto (-71), 3) := fo_167 (fw_get da_cX5_longest_3 10 rfl) (by decide +kernel)
theorem dX5_longest_133 : decode cX5_longest 133 = .ok (.iinc 7 1, 3) := fo_132 (fw_get da_cX5_longest_3 11 rfl) rfl (by decide +kernel)
theorem dX5_longest_136 : decode cX5_longest 136 = .ok (.goto (-95), 3) := fo_167 (fw_get da_cX5_longest_3 12 rfl) (by decide +kernel)
theorem dX5_longest_139 : decode cX5_longest 139 = .ok (.iload 4, 2) := fo_21 (fw_get da_cX5_longest_3 13 rfl)
theorem dX5_longest_141 : decode cX5_longest 141 = .ok (.ifCond .ne 8, 3) := fo_154 (fw_get da_cX5_longest_3 14 rfl) (by decide +kernel)
theorem dX5_longest_144 : decode cX5_longest 144 = .ok (.iload 5, 2) := fo_21 (fw_get da_cX5_longest_3 15 rfl)
theorem dX5_longest_146 : decode cX5_longest 146 = .ok (.goto 5, 3) := fo_167 (fw_get da_cX5_longest_3 16 rfl) (by decide +kernel)
theorem dX5_longest_149 : decode cX5_longest 149 = .ok (.iload 6, 2) := fo_21 (fw_get da_cX5_longest_3 17 rfl)
theorem dX5_longest_151 : decode cX5_longest 151 = .ok (.ireturn, 1) := fo_172 (fw_get da_cX5_longest_3 18 rfl)
set_option maxRecDepth 20000 in
theorem ggX5_cut_X5_isRange : GoodIn wsX5_cut wsX5_isRange := goodIn_r _ [7, 8, 18, 19, 20, 21, 22, 23, 24, 25, 26, 27, 28, 29, 30, 31, 32, 33, 34, 35, 36, 37, 38, 39, 40, 41, 42, 43, 44, 45, 46, 47] rfl (by decide +kernel)
set_option maxRecDepth 20000 in
theorem gX5_cut_X5_isRange : GoodIn wsX5_cut (wsV RX5 142 RX5 yX5_isRange wsX5_isRange) := goodIn_app (goodIn_r _ [3, 4, 5, 6] rfl (by decide +kernel)) ggX5_cut_X5_isRange
set_option maxRecDepth 20000 in
theorem ggX5_cut_X5_majorityOf : GoodIn wsX5_cut wsX5_majorityOf := goodIn_r _ [12, 13, 2, 14, 15, 16, 6, 17, 18, 19, 20, 21, 22, 23, 24, 25, 26, 27, 28, 29, 30, 31, 32, 33, 34, 35, 36, 37, 38, 39, 40, 41, 42, 43, 44, 45, 46, 47] rfl (by decide +kernel)
set_option maxRecDepth 20000 in
theorem gX5_cut_X5_majorityOf : GoodIn wsX5_cut (wsV RX5 194 RX5 yX5_majorityOf wsX5_majorityOf) := goodIn_app (goodIn_r _ [9, 10, 11, 6] rfl (by decide +kernel)) ggX5_cut_X5_majorityOf
def dt_cX5_cut_0 : List (Nat × Nat × Nat × Nat) := [(0, 42, 0, 0), (1, 3, 0, 0), (2, 181, 2, 77), (5, 42, 0, 0), (6, 27, 0, 0), (7, 28, 0, 0), (8, 182, 2, 142), (11, 154, 2, 5), (14, 2, 0, 0), (15, 172, 0, 0), (16, 27, 0, 0), (17, 4, 0, 0), (18, 96, 0, 0), (19, 62, 0, 0), (20, 29, 0, 0), (21, 28, 0, 0), (22, 162, 2, 48), (25, 42, 0, 0), (26, 27, 0, 0), (27, 29, 0, 0)]
theorem da_cX5_cut_0 : fw dt_cX5_cut_0 0 cX5_cut.data.toList = true := by decide +kernel
theorem dX5_cut_0 : decode cX5_cut 0 = .ok (.aload_n 0, 1) := fo_42 (fw_get da_cX5_cut_0 0 rfl)
theorem dX5_cut_1 : decode cX5_cut 1 = .ok (.iconst 0, 1) := fo_3 (fw_get da_cX5_cut_0 1 rfl)
theorem dX5_cut_2 : decode cX5_cut 2 = .ok (.putfield 77, 3) := fo_181 (fw_get da_cX5_cut_0 2 rfl)
theorem dX5_cut_5 : decode cX5_cut 5 = .ok (.aload_n 0, 1) := fo_42 (fw_get da_cX5_cut_0 3 rfl)
theorem dX5_cut_6 : decode cX5_cut 6 = .ok (.iload_n 1, 1) := fo_27 (fw_get da_cX5_cut_0 4 rfl)
theorem dX5_cut_7 : decode cX5_cut 7 = .ok (.iload_n 2, 1) := fo_28 (fw_get da_cX5_cut_0 5 rfl)
theorem dX5_cut_8 : decode cX5_cut 8 = .ok (.invokevirtual 142, 3) := fo_182 (fw_get da_cX5_cut_0 6 rfl)
theorem dX5_cut_11 : decode cX5_cut 11 = .ok (.ifCond .ne 5, 3) := fo_154 (fw_get da_cX5_cut_0 7 rfl) (by decide +kernel)
theorem dX5_cut_14 : decode cX5_cut 14 = .ok (.iconst (-1), 1) := fo_2 (fw_get da_cX5_cut_0 8 rfl)
theorem dX5_cut_15 : decode cX5_cut 15 = .ok (.ireturn, 1) := fo_172 (fw_get da_cX5_cut_0 9 rfl)
theorem dX5_cut_16 : decode cX5_cut 16 = .ok (.iload_n 1, 1) := fo_27 (fw_get da_cX5_cut_0 10 rfl)
theorem dX5_cut_17 : decode cX5_cut 17 = .ok (.iconst 1, 1) := fo_4 (fw_get da_cX5_cut_0 11 rfl)
theorem dX5_cut_18 : decode cX5_cut 18 = .ok (.iadd, 1) := fo_96 (fw_get da_cX5_cut_0 12 rfl)
theorem dX5_cut_19 : decode cX5_cut 19 = .ok (.istore_n 3, 1) := fo_62 (fw_get da_cX5_cut_0 13 rfl)
theorem dX5_cut_20 : decode cX5_cut 20 = .ok (.iload_n 3, 1) := fo_29 (fw_get da_cX5_cut_0 14 rfl)
theorem dX5_cut_21 : decode cX5_cut 21 = .ok (.iload_n 2, 1) := fo_28 (fw_get da_cX5_cut_0 15 rfl)
theorem dX5_cut_22 : decode cX5_cut 22 = .ok (.if_icmp .ge 48, 3) := fo_162 (fw_get da_cX5_cut_0 16 rfl) (by decide +kernel)
theorem dX5_cut_25 : decode cX5_cut 25 = .ok (.aload_n 0, 1) := fo_42 (fw_get da_cX5_cut_0 17 rfl)
theorem dX5_cut_26 : decode cX5_cut 26 = .ok (.iload_n 1, 1) := fo_27 (fw_get da_cX5_cut_0 18 rfl)
theorem dX5_cut_27 : decode cX5_cut 27 = .ok (.iload_n 3, 1) := fo_29 (fw_get da_cX5_cut_0 19 rfl)
def dt_cX5_cut_1 : List (Nat × Nat × Nat × Nat) := [(28, 182, 2, 194), (31, 54, 1, 4), (33, 42, 0, 0), (34, 29, 0, 0), (35, 28, 0, 0), (36, 182, 2, 194), (39, 54, 1, 5), (41, 21, 1, 4), (43, 18, 1, 148), (45, 159, 2, 19), (48, 21, 1, 5), (50, 18, 1, 148), (52, 159, 2, 12), (55, 21, 1, 4), (57, 21, 1, 5), (59, 159, 2, 5), (62, 29, 0, 0), (63, 172, 0, 0), (64, 132, 2, 769), (67, 167, 2, 65489)]
theorem da_cX5_cut_1 : fw dt_cX5_cut_1 0 cX5_cut.data.toList = true := by decide +kernel
theorem dX5_cut_28 : decode cX5_cut 28 = .ok (.invokevirtual 194, 3) := fo_182 (fw_get da_cX5_cut_1 0 rfl)
theorem dX5_cut_31 : decode cX5_cut 31 = .ok (.istore 4, 2) := fo_54 (fw_get da_cX5_cut_1 1 rfl)
theorem dX5_cut_33 : decode cX5_cut 33 = .ok (.aload_n 0, 1) := fo_42 (fw_get da_cX5_cut_1 2 rfl)
theorem dX5_cut_34 : decode cX5_cut 34 = .ok (.iload_n 3, 1) := fo_29 (fw_get da_cX5_cut_1 3 rfl)
theorem dX5_cut_35 : decode cX5_cut 35 = .ok (.iload_n 2, 1) := fo_28 (fw_get da_cX5_cut_1 4 rfl)
theorem dX5_cut_36 : decode cX5_cut 36 = .ok (.invokevirtual 194, 3) := fo_182 (fw_get da_cX5_cut_1 5 rfl)
theorem dX5_cut_39 : decode cX5_cut 39 = .ok (.istore 5, 2) := fo_54 (fw_get da_cX5_cut_1 6 rfl)
theorem dX5_cut_41 : decode cX5_cut 41 = .ok (.iload 4, 2) := fo_21 (fw_get da_cX5_cut_1 7 rfl)
theorem dX5_cut_43 : decode cX5_cut 43 = .ok (.ldc 148, 2) := fo_18 (fw_get da_cX5_cut_1 8 rfl)
theorem dX5_cut_45 : decode cX5_cut 45 = .ok (.if_icmp .eq 19, 3) := fo_159 (fw_get da_cX5_cut_1 9 rfl) (by decide +kernel)
theorem dX5_cut_48 : decode cX5_cut 48 = .ok (.iload 5, 2) := fo_21 (fw_get da_cX5_cut_1 10 rfl)
theorem dX5_cut_50 : decode cX5_cut 50 = .ok (.ldc 148, 2) := fo_18 (fw_get da_cX5_cut_1 11 rfl)
theorem dX5_cut_52 : decode cX5_cut 52 = .ok (.if_icmp .eq 12, 3) := fo_159 (fw_get da_cX5_cut_1 12 rfl) (by decide +kernel)
theorem dX5_cut_55 : decode cX5_cut 55 = .ok (.iload 4, 2) := fo_21 (fw_get da_cX5_cut_1 13 rfl)
theorem dX5_cut_57 : decode cX5_cut 57 = .ok (.iload 5, 2) := fo_21 (fw_get da_cX5_cut_1 14 rfl)
theorem dX5_cut_59 : decode cX5_cut 59 = .ok (.if_icmp .eq 5, 3) := fo_159 (fw_get da_cX5_cut_1 15 rfl) (by decide +kernel)
theorem dX5_cut_62 : decode cX5_cut 62 = .ok (.iload_n 3, 1) := fo_29 (fw_get da_cX5_cut_1 16 rfl)
theorem dX5_cut_63 : decode cX5_cut 63 = .ok (.ireturn, 1) := fo_172 (fw_get da_cX5_cut_1 17 rfl)
theorem dX5_cut_64 : decode cX5_cut 64 = .ok (.iinc 3 1, 3) := fo_132 (fw_get da_cX5_cut_1 18 rfl) rfl (by decide +kernel)
theorem dX5_cut_67 : decode cX5_cut 67 = .ok (.goto (-47), 3) := fo_167 (fw_get da_cX5_cut_1 19 rfl) (by decide +kernel)
def dt_cX5_cut_2 : List (Nat × Nat × Nat × Nat) := [(70, 2, 0, 0), (71, 172, 0, 0)]
theorem da_cX5_cut_2 : fw dt_cX5_cut_2 0 cX5_cut.data.toList = true := by decide +kernel
theorem dX5_cut_70 : decode cX5_cut 70 = .ok (.iconst (-1), 1) := fo_2 (fw_get da_cX5_cut_2 0 rfl)
theorem dX5_cut_71 : decode cX5_cut 71 = .ok (.ireturn, 1) := fo_172 (fw_get da_cX5_cut_2 1 rfl)
theorem mi_wsX5_would_wsX5_would_r1 : ∀ w ∈ wsX5_would_r1, w ∈ wsX5_would := fun _ h => (List.mem_cons_of_mem _ (List.mem_append_left _ (List.mem_append_left _ h)))
theorem mi_wsX5_would_wsX50 : ∀ w ∈ wsX50, w ∈ wsX5_would := fun _ h => (List.mem_cons_of_mem _ (List.mem_append_right _ h))
set_option maxRecDepth 20000 in
theorem ggX5_would_X5_isPlace : GoodIn wsX5_would wsX5_isPlace := goodIn_k _ [(wsX5_would_r1, [7, 8, 9, 10, 6, 11]), (wsX50, [0, 1, 2, 3, 4, 5, 6, 7, 8, 9, 10, 11, 12, 13, 14, 15, 16, 17, 18, 19, 20, 21, 22, 23, 24, 25, 26, 27, 28, 29])] (gk_c mi_wsX5_would_wsX5_would_r1 (gk_c mi_wsX5_would_wsX50 gk_n)) rfl (by decide +kernel)
set_option maxRecDepth 20000 in
theorem gX5_would_X5_isPlace : GoodIn wsX5_would (wsV RX5 128 RX5 yX5_isPlace wsX5_isPlace) := goodIn_app (goodIn_k _ [(wsX5_would_r1, [3, 4, 5, 6])] (gk_c mi_wsX5_would_wsX5_would_r1 gk_n) rfl (by decide +kernel)) ggX5_would_X5_isPlace
set_option maxRecDepth 20000 in
theorem ggX5_would_X5_isValue : GoodIn wsX5_would wsX5_isValue := goodIn_k _ [(wsX5_would_r1, [14, 9, 10, 6, 11])] (gk_c mi_wsX5_would_wsX5_would_r1 gk_n) rfl (by decide +kernel)
set_option maxRecDepth 20000 in
theorem gX5_would_X5_isValue : GoodIn wsX5_would (va_wsS RX5 132 yX5_isValue wsX5_isValue) := goodIn_app (goodIn_k _ [(wsX5_would_r1, [12, 13, 6])] (gk_c mi_wsX5_would_wsX5_would_r1 gk_n) rfl (by decide +kernel)) ggX5_would_X5_isValue
set_option maxRecDepth 20000 in
theorem ggX5_would_X5_isRange : GoodIn wsX5_would wsX5_isRange := goodIn_k _ [(wsX5_would_r1, [18, 8]), (wsX50, [0, 1, 2, 3, 4, 5, 6, 7, 8, 9, 10, 11, 12, 13, 14, 15, 16, 17, 18, 19, 20, 21, 22, 23, 24, 25, 26, 27, 28, 29])] (gk_c mi_wsX5_would_wsX5_would_r1 (gk_c mi_wsX5_would_wsX50 gk_n)) rfl (by decide +kernel)
set_option maxRecDepth 20000 in
theorem gX5_would_X5_isRange : GoodIn wsX5_would (wsV RX5 142 RX5 yX5_isRange wsX5_isRange) := goodIn_app (goodIn_k _ [(wsX5_would_r1, [15, 16, 17, 6])] (gk_c mi_wsX5_would_wsX5_would_r1 gk_n) rfl (by decide +kernel)) ggX5_would_X5_isRange
theorem mi_wsX5_would_wsX5_would_r2 : ∀ w ∈ wsX5_would_r2, w ∈ wsX5_would := fun _ h => (List.mem_cons_of_mem _ (List.mem_append_left _ (List.mem_append_right _ h)))
set_option maxRecDepth 20000 in
theorem ggX5_would_X5_majorityOf : GoodIn wsX5_would wsX5_majorityOf := goodIn_k _ [(wsX5_would_r1, [22, 2, 1, 23]), (wsX5_would_r2, [0, 1]), (wsX5_would_r1, [6]), (wsX5_would_r2, [2]), (wsX50, [0, 1, 2, 3, 4, 5, 6, 7, 8, 9, 10, 11, 12, 13, 14, 15, 16, 17, 18, 19, 20, 21, 22, 23, 24, 25, 26, 27, 28, 29])] (gk_c mi_wsX5_would_wsX5_would_r1 (gk_c mi_wsX5_would_wsX5_would_r2 (gk_c mi_wsX5_would_wsX5_would_r1 (gk_c mi_wsX5_would_wsX5_would_r2 (gk_c mi_wsX5_would_wsX50 gk_n))))) rfl (by decide +kernel)
set_option maxRecDepth 20000 in
theorem gX5_would_X5_majorityOf : GoodIn wsX5_would (wsV RX5 194 RX5 yX5_majorityOf wsX5_majorityOf) := goodIn_app (goodIn_k _ [(wsX5_would_r1, [19, 20, 21, 6])] (gk_c mi_wsX5_would_wsX5_would_r1 gk_n) rfl (by decide +kernel)) ggX5_would_X5_majorityOf
def dt_cX5_would_0 : List (Nat × Nat × Nat × Nat) := [(0, 42, 0, 0), (1, 3, 0, 0), (2, 181, 2, 77), (5, 42, 0, 0), (6, 27, 0, 0), (7, 182, 2, 128), (10, 153, 2, 20), (13, 28, 0, 0), (14, 184, 2, 132), (17, 153, 2, 13), (20, 42, 0, 0), (21, 29, 0, 0), (22, 21, 1, 4), (24, 182, 2, 142), (27, 154, 2, 6), (30, 18, 1, 148), (32, 172, 0, 0), (33, 42, 0, 0), (34, 180, 2, 7), (37, 27, 0, 0)]
theorem da_cX5_would_0 : fw dt_cX5_would_0 0 cX5_would.data.toList = true := by decide +kernel
theorem dX5_would_0 : decode cX5_would 0 = .ok (.aload_n 0, 1) := fo_42 (fw_get da_cX5_would_0 0 rfl)
theorem dX5_would_1 : decode cX5_would 1 = .ok (.iconst 0, 1) := fo_3 (fw_get da_cX5_would_0 1 rfl)
theorem dX5_would_2 : decode cX5_would 2 = .ok (.putfield 77, 3) := fo_181 (fw_get da_cX5_would_0 2 rfl)
theorem dX5_would_5 : decode cX5_would 5 = .ok (.aload_n 0, 1) := fo_42 (fw_get da_cX5_would_0 3 rfl)
theorem dX5_would_6 : decode cX5_would 6 = .ok (.iload_n 1, 1) := fo_27 (fw_get da_cX5_would_0 4 rfl)
theorem dX5_would_7 : decode cX5_would 7 = .ok (.invokevirtual 128, 3) := fo_182 (fw_get da_cX5_would_0 5 rfl)
theorem dX5_would_10 : decode cX5_would 10 = .ok (.ifCond .eq 20, 3) := fo_153 (fw_get da_cX5_would_0 6 rfl) (by decide +kernel)
theorem dX5_would_13 : decode cX5_would 13 = .ok (.iload_n 2, 1) := fo_28 (fw_get da_cX5_would_0 7 rfl)
theorem dX5_would_14 : decode cX5_would 14 = .ok (.invokestatic 132, 3) := fo_184 (fw_get da_cX5_would_0 8 rfl)
theorem dX5_would_17 : decode cX5_would 17 = .ok (.ifCond .eq 13, 3) := fo_153 (fw_get da_cX5_would_0 9 rfl) (by decide +kernel)
theorem dX5_would_20 : decode cX5_would 20 = .ok (.aload_n 0, 1) := fo_42 (fw_get da_cX5_would_0 10 rfl)
theorem dX5_would_21 : decode cX5_would 21 = .ok (.iload_n 3, 1) := fo_29 (fw_get da_cX5_would_0 11 rfl)
theorem dX5_would_22 : decode cX5_would 22 = .ok (.iload 4, 2) := fo_21 (fw_get da_cX5_would_0 12 rfl)
theorem dX5_would_24 : decode cX5_would 24 = .ok (.invokevirtual 142, 3) := fo_182 (fw_get da_cX5_would_0 13 rfl)
theorem dX5_would_27 : decode cX5_would 27 = .ok (.ifCond .ne 6, 3) := fo_154 (fw_get da_cX5_would_0 14 rfl) (by decide +kernel)
theorem dX5_would_30 : decode cX5_would 30 = .ok (.ldc 148, 2) := fo_18 (fw_get da_cX5_would_0 15 rfl)
theorem dX5_would_32 : decode cX5_would 32 = .ok (.ireturn, 1) := fo_172 (fw_get da_cX5_would_0 16 rfl)
theorem dX5_would_33 : decode cX5_would 33 = .ok (.aload_n 0, 1) := fo_42 (fw_get da_cX5_would_0 17 rfl)
theorem dX5_would_34 : decode cX5_would 34 = .ok (.getfield 7, 3) := fo_180 (fw_get da_cX5_would_0 18 rfl)
theorem dX5_would_37 : decode cX5_would 37 = .ok (.iload_n 1, 1) := fo_27 (fw_get da_cX5_would_0 19 rfl)
def dt_cX5_would_1 : List (Nat × Nat × Nat × Nat) := [(38, 46, 0, 0), (39, 54, 1, 5), (41, 42, 0, 0), (42, 180, 2, 7), (45, 27, 0, 0), (46, 28, 0, 0), (47, 79, 0, 0), (48, 42, 0, 0), (49, 29, 0, 0), (50, 21, 1, 4), (52, 182, 2, 194), (55, 54, 1, 6), (57, 42, 0, 0), (58, 180, 2, 7), (61, 27, 0, 0), (62, 21, 1, 5), (64, 79, 0, 0), (65, 21, 1, 6), (67, 172, 0, 0)]
theorem da_cX5_would_1 : fw dt_cX5_would_1 0 cX5_would.data.toList = true := by decide +kernel
theorem dX5_would_38 : decode cX5_would 38 = .ok (.iaload, 1) := fo_46 (fw_get da_cX5_would_1 0 rfl)
theorem dX5_would_39 : decode cX5_would 39 = .ok (.istore 5, 2) := fo_54 (fw_get da_cX5_would_1 1 rfl)
theorem dX5_would_41 : decode cX5_would 41 = .ok (.aload_n 0, 1) := fo_42 (fw_get da_cX5_would_1 2 rfl)
theorem dX5_would_42 : decode cX5_would 42 = .ok (.getfield 7, 3) := fo_180 (fw_get da_cX5_would_1 3 rfl)
theorem dX5_would_45 : decode cX5_would 45 = .ok (.iload_n 1, 1) := fo_27 (fw_get da_cX5_would_1 4 rfl)
theorem dX5_would_46 : decode cX5_would 46 = .ok (.iload_n 2, 1) := fo_28 (fw_get da_cX5_would_1 5 rfl)
theorem dX5_would_47 : decode cX5_would 47 = .ok (.iastore, 1) := fo_79 (fw_get da_cX5_would_1 6 rfl)
theorem dX5_would_48 : decode cX5_would 48 = .ok (.aload_n 0, 1) := fo_42 (fw_get da_cX5_would_1 7 rfl)
theorem dX5_would_49 : decode cX5_would 49 = .ok (.iload_n 3, 1) := fo_29 (fw_get da_cX5_would_1 8 rfl)
theorem dX5_would_50 : decode cX5_would 50 = .ok (.iload 4, 2) := fo_21 (fw_get da_cX5_would_1 9 rfl)
theorem dX5_would_52 : decode cX5_would 52 = .ok (.invokevirtual 194, 3) := fo_182 (fw_get da_cX5_would_1 10 rfl)
theorem dX5_would_55 : decode cX5_would 55 = .ok (.istore 6, 2) := fo_54 (fw_get da_cX5_would_1 11 rfl)
theorem dX5_would_57 : decode cX5_would 57 = .ok (.aload_n 0, 1) := fo_42 (fw_get da_cX5_would_1 12 rfl)
theorem dX5_would_58 : decode cX5_would 58 = .ok (.getfield 7, 3) := fo_180 (fw_get da_cX5_would_1 13 rfl)
theorem dX5_would_61 : decode cX5_would 61 = .ok (.iload_n 1, 1) := fo_27 (fw_get da_cX5_would_1 14 rfl)
theorem dX5_would_62 : decode cX5_would 62 = .ok (.iload 5, 2) := fo_21 (fw_get da_cX5_would_1 15 rfl)
theorem dX5_would_64 : decode cX5_would 64 = .ok (.iastore, 1) := fo_79 (fw_get da_cX5_would_1 16 rfl)
theorem dX5_would_65 : decode cX5_would 65 = .ok (.iload 6, 2) := fo_21 (fw_get da_cX5_would_1 17 rfl)
theorem dX5_would_67 : decode cX5_would 67 = .ok (.ireturn, 1) := fo_172 (fw_get da_cX5_would_1 18 rfl)

