abbrev cX4_set : ByteArray := prog_1_method_5_code
def yX4_set : MethodName := ⟨RX4, "set", "(II)I"⟩
abbrev cX4_fill : ByteArray := prog_1_method_6_code
def yX4_fill : MethodName := ⟨RX4, "fill", "(III)I"⟩
abbrev cX4_turn : ByteArray := prog_1_method_7_code
def yX4_turn : MethodName := ⟨RX4, "turn", "(II)I"⟩
abbrev cX4_swap : ByteArray := prog_1_method_8_code
def yX4_swap : MethodName := ⟨RX4, "swap", "(II)I"⟩
abbrev cX4_least : ByteArray := prog_1_method_30_code
def yX4_least : MethodName := ⟨RX4, "least", "(IIII)I"⟩
abbrev cX4_both : ByteArray := prog_1_method_33_code
def yX4_both : MethodName := ⟨RX4, "both", "(IIIIII)I"⟩
abbrev cX4_bothAt : ByteArray := prog_1_method_34_code
def yX4_bothAt : MethodName := ⟨RX4, "bothAt", "(IIIIIII)I"⟩
abbrev cX4_swings : ByteArray := prog_1_method_44_code
def yX4_swings : MethodName := ⟨RX4, "swings", "(IIII)I"⟩
abbrev cX4_told : ByteArray := prog_1_method_45_code
def yX4_told : MethodName := ⟨RX4, "told", "(I)I"⟩
abbrev cX4_overwrite : ByteArray := prog_1_method_52_code
def yX4_overwrite : MethodName := ⟨RX4, "overwrite", "(LMajorityIndex$Tree;III)I"⟩
abbrev cX4_refusalOfBoth : ByteArray := prog_1_method_54_code
def yX4_refusalOfBoth : MethodName := ⟨RX4, "refusalOfBoth", "(IIIIII)I"⟩
abbrev cX4_gatherHeavyOfBoth : ByteArray := prog_1_method_55_code
def yX4_gatherHeavyOfBoth : MethodName := ⟨RX4, "gatherHeavyOfBoth", "(LMajorityIndex$Tree;IIIIII)V"⟩
abbrev cX4_heavyValues : ByteArray := prog_1_method_56_code
def yX4_heavyValues : MethodName := ⟨RX4, "heavyValues", "(IIII)I"⟩
abbrev cX4_heavyVotesBy : ByteArray := prog_1_method_57_code
def yX4_heavyVotesBy : MethodName := ⟨RX4, "heavyVotesBy", "(LMajorityIndex$Tree;IIIII)I"⟩
abbrev cX4_rootTotalWith : ByteArray := prog_1_method_62_code
def yX4_rootTotalWith : MethodName := ⟨RX4, "rootTotalWith", "(LMajorityIndex$Tree;II)I"⟩
def wsX4_overwrite_r1 : List Cond := [Cond.fieldLink RX4 12 "MajorityIndex" "row" "LMajorityIndex$Row;", Cond.fieldLink RX4 110 "MajorityIndex$Row" "cell" "[I", Cond.methodLink RX4 87 yX2_renew, Cond.instanceMethod yX2_renew, Cond.selects RX2 yX2_renew yX2_renew, Cond.initialized RX2, Cond.code yX2_renew cX2_renew 5 (some .int), Cond.fieldLink RX2 50 "MajorityIndex$Tree" "nodes" "I", Cond.fieldLink RX2 18 "MajorityIndex$Tree" "from" "[I", Cond.fieldLink RX2 22 "MajorityIndex$Tree" "to" "[I", Cond.methodLink RX2 61 yX2_putTogether, Cond.instanceMethod yX2_putTogether, Cond.selects RX2 yX2_putTogether yX2_putTogether, Cond.code yX2_putTogether cX2_putTogether 2 none, Cond.fieldLink RX2 12 "MajorityIndex$Tree" "joined" "LMajorityIndex$Votes;", Cond.fieldLink RX2 40 "MajorityIndex$Tree" "row" "LMajorityIndex$Row;", Cond.fieldLink RX2 74 "MajorityIndex$Row" "cell" "[I", Cond.fieldLink RX2 85 "MajorityIndex$Tree" "slotsHere" "I", Cond.methodLink RX2 71 yX3_clear, Cond.instanceMethod yX3_clear, Cond.selects RX3 yX3_clear yX3_clear, Cond.initialized RX3, Cond.code yX3_clear cX3_clear 1 none, Cond.fieldLink RX3 18 "MajorityIndex$Votes" "size" "I"]
def wsX4_overwrite_r2 : List Cond := [Cond.fieldLink RX3 22 "MajorityIndex$Votes" "lost" "I", Cond.fieldLink RX3 25 "MajorityIndex$Votes" "lessBy" "I", Cond.methodLink RX2 77 yX3_add, Cond.instanceMethod yX3_add, Cond.selects RX3 yX3_add yX3_add, Cond.code yX3_add cX3_add 4 none, Cond.fieldLink RX3 9 "MajorityIndex$Votes" "value" "[I", Cond.fieldLink RX3 15 "MajorityIndex$Votes" "number" "[I", Cond.methodLink RX2 81 yX2_joinNode, Cond.instanceMethod yX2_joinNode, Cond.selects RX2 yX2_joinNode yX2_joinNode, Cond.code yX2_joinNode cX2_joinNode 5 none, Cond.fieldLink RX2 25 "MajorityIndex$Tree" "size" "[I", Cond.fieldLink RX2 34 "MajorityIndex$Tree" "value" "[I", Cond.fieldLink RX2 37 "MajorityIndex$Tree" "number" "[I", Cond.fieldLink RX2 91 "MajorityIndex$Votes" "lost" "I", Cond.fieldLink RX2 28 "MajorityIndex$Tree" "lossOf" "[I", Cond.methodLink RX2 57 yX2_rightBelow, Cond.instanceMethod yX2_rightBelow, Cond.selects RX2 yX2_rightBelow yX2_rightBelow, Cond.code yX2_rightBelow cX2_rightBelow 3 (some .int), Cond.methodLink RX2 88 yX3_cancel, Cond.instanceMethod yX3_cancel, Cond.selects RX3 yX3_cancel yX3_cancel]
def wsX4_overwrite_r3 : List Cond := [Cond.code yX3_cancel cX3_cancel 4 none, Cond.methodLink RX3 32 yX3_order, Cond.instanceMethod yX3_order, Cond.selects RX3 yX3_order yX3_order, Cond.code yX3_order cX3_order 3 none, Cond.methodLink RX3 35 yX3_isAhead, Cond.instanceMethod yX3_isAhead, Cond.selects RX3 yX3_isAhead yX3_isAhead, Cond.code yX3_isAhead cX3_isAhead 3 (some .boolean), Cond.methodLink RX3 39 yX3_exchange, Cond.instanceMethod yX3_exchange, Cond.selects RX3 yX3_exchange yX3_exchange, Cond.code yX3_exchange cX3_exchange 5 none, Cond.methodLink RX2 64 yX2_isJoined, Cond.instanceMethod yX2_isJoined, Cond.selects RX2 yX2_isJoined yX2_isJoined, Cond.code yX2_isJoined cX2_isJoined 4 (some .boolean), Cond.fieldLink RX2 94 "MajorityIndex$Votes" "size" "I", Cond.fieldLink RX2 96 "MajorityIndex$Votes" "value" "[I", Cond.fieldLink RX2 97 "MajorityIndex$Votes" "number" "[I", Cond.methodLink RX2 68 yX2_keepJoined, Cond.instanceMethod yX2_keepJoined, Cond.selects RX2 yX2_keepJoined yX2_keepJoined, Cond.code yX2_keepJoined cX2_keepJoined 4 none]
def wsX4_overwrite_r4 : List Cond := [Cond.methodLink RX2 98 Lib.Math.min.name, Cond.static Lib.Math.min.name, Cond.initialized "java/lang/Math", Cond.code Lib.Math.min.name Lib.Math.min.code 2 (some .int), Cond.fieldLink RX2 31 "MajorityIndex$Tree" "lessBy" "[I", Cond.fieldLink RX2 104 "MajorityIndex$Votes" "lessBy" "I"]
def wsX4_overwrite : List Cond := .code yX4_overwrite cX4_overwrite 6 (some .int) :: ((wsX4_overwrite_r1 ++ (wsX4_overwrite_r2 ++ (wsX4_overwrite_r3 ++ wsX4_overwrite_r4))) ++ wsX40 ++ wsX00 ++ wsX20 ++ wsX30)
def wsX4_set_r1 : List Cond := [Cond.fieldLink RX4 12 "MajorityIndex" "row" "LMajorityIndex$Row;", Cond.methodLink RX4 64 yX0_hasPlace, Cond.instanceMethod yX0_hasPlace, Cond.selects RX0 yX0_hasPlace yX0_hasPlace, Cond.initialized RX0, Cond.code yX0_hasPlace cX0_hasPlace 2 (some .boolean), Cond.fieldLink RX0 15 "MajorityIndex$Row" "length" "I", Cond.methodLink RX4 68 yX4_isValue, Cond.static yX4_isValue, Cond.initialized RX4, Cond.code yX4_isValue cX4_isValue 1 (some .boolean), Cond.methodLink RX4 71 yX4_laidTree, Cond.instanceMethod yX4_laidTree, Cond.selects RX4 yX4_laidTree yX4_laidTree, Cond.code yX4_laidTree cX4_laidTree 1 (some (.object "MajorityIndex$Tree")), Cond.fieldLink RX4 53 "MajorityIndex" "treeIsOld" "Z", Cond.fieldLink RX4 21 "MajorityIndex" "tree" "LMajorityIndex$Tree;", Cond.fieldLink RX4 49 "MajorityIndex" "slotsNow" "I", Cond.fieldLink RX4 204 "MajorityIndex$Tree" "slotsHere" "I", Cond.fieldLink RX4 57 "MajorityIndex$Row" "length" "I", Cond.methodLink RX4 259 yX2_layRanges, Cond.instanceMethod yX2_layRanges, Cond.selects RX2 yX2_layRanges yX2_layRanges, Cond.initialized RX2]
def wsX4_set_r2 : List Cond := [Cond.code yX2_layRanges cX2_layRanges 2 none, Cond.fieldLink RX2 40 "MajorityIndex$Tree" "row" "LMajorityIndex$Row;", Cond.fieldLink RX2 44 "MajorityIndex$Row" "length" "I", Cond.fieldLink RX2 50 "MajorityIndex$Tree" "nodes" "I", Cond.fieldLink RX2 18 "MajorityIndex$Tree" "from" "[I", Cond.fieldLink RX2 22 "MajorityIndex$Tree" "to" "[I", Cond.methodLink RX2 53 yX2_layBelow, Cond.instanceMethod yX2_layBelow, Cond.selects RX2 yX2_layBelow yX2_layBelow, Cond.code yX2_layBelow cX2_layBelow 4 none, Cond.methodLink RX2 57 yX2_rightBelow, Cond.instanceMethod yX2_rightBelow, Cond.selects RX2 yX2_rightBelow yX2_rightBelow, Cond.code yX2_rightBelow cX2_rightBelow 3 (some .int), Cond.methodLink RX4 87 yX2_renew, Cond.instanceMethod yX2_renew, Cond.selects RX2 yX2_renew yX2_renew, Cond.code yX2_renew cX2_renew 5 (some .int), Cond.methodLink RX2 61 yX2_putTogether, Cond.instanceMethod yX2_putTogether, Cond.selects RX2 yX2_putTogether yX2_putTogether, Cond.code yX2_putTogether cX2_putTogether 2 none, Cond.fieldLink RX2 12 "MajorityIndex$Tree" "joined" "LMajorityIndex$Votes;", Cond.fieldLink RX2 74 "MajorityIndex$Row" "cell" "[I"]
def wsX4_set_r3 : List Cond := [Cond.fieldLink RX2 85 "MajorityIndex$Tree" "slotsHere" "I", Cond.methodLink RX2 71 yX3_clear, Cond.instanceMethod yX3_clear, Cond.selects RX3 yX3_clear yX3_clear, Cond.initialized RX3, Cond.code yX3_clear cX3_clear 1 none, Cond.fieldLink RX3 18 "MajorityIndex$Votes" "size" "I", Cond.fieldLink RX3 22 "MajorityIndex$Votes" "lost" "I", Cond.fieldLink RX3 25 "MajorityIndex$Votes" "lessBy" "I", Cond.methodLink RX2 77 yX3_add, Cond.instanceMethod yX3_add, Cond.selects RX3 yX3_add yX3_add, Cond.code yX3_add cX3_add 4 none, Cond.fieldLink RX3 9 "MajorityIndex$Votes" "value" "[I", Cond.fieldLink RX3 15 "MajorityIndex$Votes" "number" "[I", Cond.methodLink RX2 81 yX2_joinNode, Cond.instanceMethod yX2_joinNode, Cond.selects RX2 yX2_joinNode yX2_joinNode, Cond.code yX2_joinNode cX2_joinNode 5 none, Cond.fieldLink RX2 25 "MajorityIndex$Tree" "size" "[I", Cond.fieldLink RX2 34 "MajorityIndex$Tree" "value" "[I", Cond.fieldLink RX2 37 "MajorityIndex$Tree" "number" "[I", Cond.fieldLink RX2 91 "MajorityIndex$Votes" "lost" "I", Cond.fieldLink RX2 28 "MajorityIndex$Tree" "lossOf" "[I"]
def wsX4_set_r4 : List Cond := [Cond.methodLink RX2 88 yX3_cancel, Cond.instanceMethod yX3_cancel, Cond.selects RX3 yX3_cancel yX3_cancel, Cond.code yX3_cancel cX3_cancel 4 none, Cond.methodLink RX3 32 yX3_order, Cond.instanceMethod yX3_order, Cond.selects RX3 yX3_order yX3_order, Cond.code yX3_order cX3_order 3 none, Cond.methodLink RX3 35 yX3_isAhead, Cond.instanceMethod yX3_isAhead, Cond.selects RX3 yX3_isAhead yX3_isAhead, Cond.code yX3_isAhead cX3_isAhead 3 (some .boolean), Cond.methodLink RX3 39 yX3_exchange, Cond.instanceMethod yX3_exchange, Cond.selects RX3 yX3_exchange yX3_exchange, Cond.code yX3_exchange cX3_exchange 5 none, Cond.methodLink RX2 64 yX2_isJoined, Cond.instanceMethod yX2_isJoined, Cond.selects RX2 yX2_isJoined yX2_isJoined, Cond.code yX2_isJoined cX2_isJoined 4 (some .boolean), Cond.fieldLink RX2 94 "MajorityIndex$Votes" "size" "I", Cond.fieldLink RX2 96 "MajorityIndex$Votes" "value" "[I", Cond.fieldLink RX2 97 "MajorityIndex$Votes" "number" "[I", Cond.methodLink RX2 68 yX2_keepJoined]
def wsX4_set_r5 : List Cond := [Cond.instanceMethod yX2_keepJoined, Cond.selects RX2 yX2_keepJoined yX2_keepJoined, Cond.code yX2_keepJoined cX2_keepJoined 4 none, Cond.methodLink RX2 98 Lib.Math.min.name, Cond.static Lib.Math.min.name, Cond.initialized "java/lang/Math", Cond.code Lib.Math.min.name Lib.Math.min.code 2 (some .int), Cond.fieldLink RX2 31 "MajorityIndex$Tree" "lessBy" "[I", Cond.fieldLink RX2 104 "MajorityIndex$Votes" "lessBy" "I", Cond.methodLink RX4 75 yX4_overwrite, Cond.instanceMethod yX4_overwrite, Cond.selects RX4 yX4_overwrite yX4_overwrite, Cond.code yX4_overwrite cX4_overwrite 6 (some .int), Cond.fieldLink RX4 110 "MajorityIndex$Row" "cell" "[I"]
def wsX4_set : List Cond := .code yX4_set cX4_set 3 (some .int) :: ((wsX4_set_r1 ++ (wsX4_set_r2 ++ (wsX4_set_r3 ++ (wsX4_set_r4 ++ wsX4_set_r5)))) ++ wsX40 ++ wsX00 ++ wsX20 ++ wsX30)
def wsX4_fill_r1 : List Cond := [Cond.fieldLink RX4 12 "MajorityIndex" "row" "LMajorityIndex$Row;", Cond.methodLink RX4 79 yX0_hasRange, Cond.instanceMethod yX0_hasRange, Cond.selects RX0 yX0_hasRange yX0_hasRange, Cond.initialized RX0, Cond.code yX0_hasRange cX0_hasRange 3 (some .boolean), Cond.fieldLink RX0 15 "MajorityIndex$Row" "length" "I", Cond.methodLink RX4 68 yX4_isValue, Cond.static yX4_isValue, Cond.initialized RX4, Cond.code yX4_isValue cX4_isValue 1 (some .boolean), Cond.methodLink RX4 71 yX4_laidTree, Cond.instanceMethod yX4_laidTree, Cond.selects RX4 yX4_laidTree yX4_laidTree, Cond.code yX4_laidTree cX4_laidTree 1 (some (.object "MajorityIndex$Tree")), Cond.fieldLink RX4 53 "MajorityIndex" "treeIsOld" "Z", Cond.fieldLink RX4 21 "MajorityIndex" "tree" "LMajorityIndex$Tree;", Cond.fieldLink RX4 49 "MajorityIndex" "slotsNow" "I", Cond.fieldLink RX4 204 "MajorityIndex$Tree" "slotsHere" "I", Cond.fieldLink RX4 57 "MajorityIndex$Row" "length" "I", Cond.methodLink RX4 259 yX2_layRanges, Cond.instanceMethod yX2_layRanges, Cond.selects RX2 yX2_layRanges yX2_layRanges, Cond.initialized RX2]
def wsX4_fill_r2 : List Cond := [Cond.code yX2_layRanges cX2_layRanges 2 none, Cond.fieldLink RX2 40 "MajorityIndex$Tree" "row" "LMajorityIndex$Row;", Cond.fieldLink RX2 44 "MajorityIndex$Row" "length" "I", Cond.fieldLink RX2 50 "MajorityIndex$Tree" "nodes" "I", Cond.fieldLink RX2 18 "MajorityIndex$Tree" "from" "[I", Cond.fieldLink RX2 22 "MajorityIndex$Tree" "to" "[I", Cond.methodLink RX2 53 yX2_layBelow, Cond.instanceMethod yX2_layBelow, Cond.selects RX2 yX2_layBelow yX2_layBelow, Cond.code yX2_layBelow cX2_layBelow 4 none, Cond.methodLink RX2 57 yX2_rightBelow, Cond.instanceMethod yX2_rightBelow, Cond.selects RX2 yX2_rightBelow yX2_rightBelow, Cond.code yX2_rightBelow cX2_rightBelow 3 (some .int), Cond.methodLink RX4 87 yX2_renew, Cond.instanceMethod yX2_renew, Cond.selects RX2 yX2_renew yX2_renew, Cond.code yX2_renew cX2_renew 5 (some .int), Cond.methodLink RX2 61 yX2_putTogether, Cond.instanceMethod yX2_putTogether, Cond.selects RX2 yX2_putTogether yX2_putTogether, Cond.code yX2_putTogether cX2_putTogether 2 none, Cond.fieldLink RX2 12 "MajorityIndex$Tree" "joined" "LMajorityIndex$Votes;", Cond.fieldLink RX2 74 "MajorityIndex$Row" "cell" "[I"]
def wsX4_fill_r3 : List Cond := [Cond.fieldLink RX2 85 "MajorityIndex$Tree" "slotsHere" "I", Cond.methodLink RX2 71 yX3_clear, Cond.instanceMethod yX3_clear, Cond.selects RX3 yX3_clear yX3_clear, Cond.initialized RX3, Cond.code yX3_clear cX3_clear 1 none, Cond.fieldLink RX3 18 "MajorityIndex$Votes" "size" "I", Cond.fieldLink RX3 22 "MajorityIndex$Votes" "lost" "I", Cond.fieldLink RX3 25 "MajorityIndex$Votes" "lessBy" "I", Cond.methodLink RX2 77 yX3_add, Cond.instanceMethod yX3_add, Cond.selects RX3 yX3_add yX3_add, Cond.code yX3_add cX3_add 4 none, Cond.fieldLink RX3 9 "MajorityIndex$Votes" "value" "[I", Cond.fieldLink RX3 15 "MajorityIndex$Votes" "number" "[I", Cond.methodLink RX2 81 yX2_joinNode, Cond.instanceMethod yX2_joinNode, Cond.selects RX2 yX2_joinNode yX2_joinNode, Cond.code yX2_joinNode cX2_joinNode 5 none, Cond.fieldLink RX2 25 "MajorityIndex$Tree" "size" "[I", Cond.fieldLink RX2 34 "MajorityIndex$Tree" "value" "[I", Cond.fieldLink RX2 37 "MajorityIndex$Tree" "number" "[I", Cond.fieldLink RX2 91 "MajorityIndex$Votes" "lost" "I", Cond.fieldLink RX2 28 "MajorityIndex$Tree" "lossOf" "[I"]
def wsX4_fill_r4 : List Cond := [Cond.methodLink RX2 88 yX3_cancel, Cond.instanceMethod yX3_cancel, Cond.selects RX3 yX3_cancel yX3_cancel, Cond.code yX3_cancel cX3_cancel 4 none, Cond.methodLink RX3 32 yX3_order, Cond.instanceMethod yX3_order, Cond.selects RX3 yX3_order yX3_order, Cond.code yX3_order cX3_order 3 none, Cond.methodLink RX3 35 yX3_isAhead, Cond.instanceMethod yX3_isAhead, Cond.selects RX3 yX3_isAhead yX3_isAhead, Cond.code yX3_isAhead cX3_isAhead 3 (some .boolean), Cond.methodLink RX3 39 yX3_exchange, Cond.instanceMethod yX3_exchange, Cond.selects RX3 yX3_exchange yX3_exchange, Cond.code yX3_exchange cX3_exchange 5 none, Cond.methodLink RX2 64 yX2_isJoined, Cond.instanceMethod yX2_isJoined, Cond.selects RX2 yX2_isJoined yX2_isJoined, Cond.code yX2_isJoined cX2_isJoined 4 (some .boolean), Cond.fieldLink RX2 94 "MajorityIndex$Votes" "size" "I", Cond.fieldLink RX2 96 "MajorityIndex$Votes" "value" "[I", Cond.fieldLink RX2 97 "MajorityIndex$Votes" "number" "[I", Cond.methodLink RX2 68 yX2_keepJoined]
def wsX4_fill_r5 : List Cond := [Cond.instanceMethod yX2_keepJoined, Cond.selects RX2 yX2_keepJoined yX2_keepJoined, Cond.code yX2_keepJoined cX2_keepJoined 4 none, Cond.methodLink RX2 98 Lib.Math.min.name, Cond.static Lib.Math.min.name, Cond.initialized "java/lang/Math", Cond.code Lib.Math.min.name Lib.Math.min.code 2 (some .int), Cond.fieldLink RX2 31 "MajorityIndex$Tree" "lessBy" "[I", Cond.fieldLink RX2 104 "MajorityIndex$Votes" "lessBy" "I", Cond.methodLink RX4 75 yX4_overwrite, Cond.instanceMethod yX4_overwrite, Cond.selects RX4 yX4_overwrite yX4_overwrite, Cond.code yX4_overwrite cX4_overwrite 6 (some .int), Cond.fieldLink RX4 110 "MajorityIndex$Row" "cell" "[I"]
def wsX4_fill : List Cond := .code yX4_fill cX4_fill 4 (some .int) :: ((wsX4_fill_r1 ++ (wsX4_fill_r2 ++ (wsX4_fill_r3 ++ (wsX4_fill_r4 ++ wsX4_fill_r5)))) ++ wsX40 ++ wsX00 ++ wsX20 ++ wsX30)
def wsX4_turn_r1 : List Cond := [Cond.fieldLink RX4 12 "MajorityIndex" "row" "LMajorityIndex$Row;", Cond.methodLink RX4 79 yX0_hasRange, Cond.instanceMethod yX0_hasRange, Cond.selects RX0 yX0_hasRange yX0_hasRange, Cond.initialized RX0, Cond.code yX0_hasRange cX0_hasRange 3 (some .boolean), Cond.fieldLink RX0 15 "MajorityIndex$Row" "length" "I", Cond.methodLink RX4 71 yX4_laidTree, Cond.instanceMethod yX4_laidTree, Cond.selects RX4 yX4_laidTree yX4_laidTree, Cond.initialized RX4, Cond.code yX4_laidTree cX4_laidTree 1 (some (.object "MajorityIndex$Tree")), Cond.fieldLink RX4 53 "MajorityIndex" "treeIsOld" "Z", Cond.fieldLink RX4 21 "MajorityIndex" "tree" "LMajorityIndex$Tree;", Cond.fieldLink RX4 49 "MajorityIndex" "slotsNow" "I", Cond.fieldLink RX4 204 "MajorityIndex$Tree" "slotsHere" "I", Cond.fieldLink RX4 57 "MajorityIndex$Row" "length" "I", Cond.methodLink RX4 259 yX2_layRanges, Cond.instanceMethod yX2_layRanges, Cond.selects RX2 yX2_layRanges yX2_layRanges, Cond.initialized RX2, Cond.code yX2_layRanges cX2_layRanges 2 none, Cond.fieldLink RX2 40 "MajorityIndex$Tree" "row" "LMajorityIndex$Row;", Cond.fieldLink RX2 44 "MajorityIndex$Row" "length" "I"]
def wsX4_turn_r2 : List Cond := [Cond.fieldLink RX2 50 "MajorityIndex$Tree" "nodes" "I", Cond.fieldLink RX2 18 "MajorityIndex$Tree" "from" "[I", Cond.fieldLink RX2 22 "MajorityIndex$Tree" "to" "[I", Cond.methodLink RX2 53 yX2_layBelow, Cond.instanceMethod yX2_layBelow, Cond.selects RX2 yX2_layBelow yX2_layBelow, Cond.code yX2_layBelow cX2_layBelow 4 none, Cond.methodLink RX2 57 yX2_rightBelow, Cond.instanceMethod yX2_rightBelow, Cond.selects RX2 yX2_rightBelow yX2_rightBelow, Cond.code yX2_rightBelow cX2_rightBelow 3 (some .int), Cond.methodLink RX4 87 yX2_renew, Cond.instanceMethod yX2_renew, Cond.selects RX2 yX2_renew yX2_renew, Cond.code yX2_renew cX2_renew 5 (some .int), Cond.methodLink RX2 61 yX2_putTogether, Cond.instanceMethod yX2_putTogether, Cond.selects RX2 yX2_putTogether yX2_putTogether, Cond.code yX2_putTogether cX2_putTogether 2 none, Cond.fieldLink RX2 12 "MajorityIndex$Tree" "joined" "LMajorityIndex$Votes;", Cond.fieldLink RX2 74 "MajorityIndex$Row" "cell" "[I", Cond.fieldLink RX2 85 "MajorityIndex$Tree" "slotsHere" "I", Cond.methodLink RX2 71 yX3_clear, Cond.instanceMethod yX3_clear]
def wsX4_turn_r3 : List Cond := [Cond.selects RX3 yX3_clear yX3_clear, Cond.initialized RX3, Cond.code yX3_clear cX3_clear 1 none, Cond.fieldLink RX3 18 "MajorityIndex$Votes" "size" "I", Cond.fieldLink RX3 22 "MajorityIndex$Votes" "lost" "I", Cond.fieldLink RX3 25 "MajorityIndex$Votes" "lessBy" "I", Cond.methodLink RX2 77 yX3_add, Cond.instanceMethod yX3_add, Cond.selects RX3 yX3_add yX3_add, Cond.code yX3_add cX3_add 4 none, Cond.fieldLink RX3 9 "MajorityIndex$Votes" "value" "[I", Cond.fieldLink RX3 15 "MajorityIndex$Votes" "number" "[I", Cond.methodLink RX2 81 yX2_joinNode, Cond.instanceMethod yX2_joinNode, Cond.selects RX2 yX2_joinNode yX2_joinNode, Cond.code yX2_joinNode cX2_joinNode 5 none, Cond.fieldLink RX2 25 "MajorityIndex$Tree" "size" "[I", Cond.fieldLink RX2 34 "MajorityIndex$Tree" "value" "[I", Cond.fieldLink RX2 37 "MajorityIndex$Tree" "number" "[I", Cond.fieldLink RX2 91 "MajorityIndex$Votes" "lost" "I", Cond.fieldLink RX2 28 "MajorityIndex$Tree" "lossOf" "[I", Cond.methodLink RX2 88 yX3_cancel, Cond.instanceMethod yX3_cancel, Cond.selects RX3 yX3_cancel yX3_cancel]
def wsX4_turn_r4 : List Cond := [Cond.code yX3_cancel cX3_cancel 4 none, Cond.methodLink RX3 32 yX3_order, Cond.instanceMethod yX3_order, Cond.selects RX3 yX3_order yX3_order, Cond.code yX3_order cX3_order 3 none, Cond.methodLink RX3 35 yX3_isAhead, Cond.instanceMethod yX3_isAhead, Cond.selects RX3 yX3_isAhead yX3_isAhead, Cond.code yX3_isAhead cX3_isAhead 3 (some .boolean), Cond.methodLink RX3 39 yX3_exchange, Cond.instanceMethod yX3_exchange, Cond.selects RX3 yX3_exchange yX3_exchange, Cond.code yX3_exchange cX3_exchange 5 none, Cond.methodLink RX2 64 yX2_isJoined, Cond.instanceMethod yX2_isJoined, Cond.selects RX2 yX2_isJoined yX2_isJoined, Cond.code yX2_isJoined cX2_isJoined 4 (some .boolean), Cond.fieldLink RX2 94 "MajorityIndex$Votes" "size" "I", Cond.fieldLink RX2 96 "MajorityIndex$Votes" "value" "[I", Cond.fieldLink RX2 97 "MajorityIndex$Votes" "number" "[I", Cond.methodLink RX2 68 yX2_keepJoined, Cond.instanceMethod yX2_keepJoined, Cond.selects RX2 yX2_keepJoined yX2_keepJoined, Cond.code yX2_keepJoined cX2_keepJoined 4 none]
def wsX4_turn_r5 : List Cond := [Cond.methodLink RX2 98 Lib.Math.min.name, Cond.static Lib.Math.min.name, Cond.initialized "java/lang/Math", Cond.code Lib.Math.min.name Lib.Math.min.code 2 (some .int), Cond.fieldLink RX2 31 "MajorityIndex$Tree" "lessBy" "[I", Cond.fieldLink RX2 104 "MajorityIndex$Votes" "lessBy" "I", Cond.methodLink RX4 83 yX0_exchange, Cond.instanceMethod yX0_exchange, Cond.selects RX0 yX0_exchange yX0_exchange, Cond.code yX0_exchange cX0_exchange 4 none, Cond.fieldLink RX0 9 "MajorityIndex$Row" "cell" "[I"]
def wsX4_turn : List Cond := .code yX4_turn cX4_turn 6 (some .int) :: ((wsX4_turn_r1 ++ (wsX4_turn_r2 ++ (wsX4_turn_r3 ++ (wsX4_turn_r4 ++ wsX4_turn_r5)))) ++ wsX40 ++ wsX00 ++ wsX20 ++ wsX30)
def wsX4_swap_r1 : List Cond := [Cond.fieldLink RX4 12 "MajorityIndex" "row" "LMajorityIndex$Row;", Cond.methodLink RX4 91 Lib.Math.min.name, Cond.static Lib.Math.min.name, Cond.initialized "java/lang/Math", Cond.code Lib.Math.min.name Lib.Math.min.code 2 (some .int), Cond.methodLink RX4 96 Lib.Math.max.name, Cond.static Lib.Math.max.name, Cond.code Lib.Math.max.name Lib.Math.max.code 2 (some .int), Cond.methodLink RX4 64 yX0_hasPlace, Cond.instanceMethod yX0_hasPlace, Cond.selects RX0 yX0_hasPlace yX0_hasPlace, Cond.initialized RX0, Cond.code yX0_hasPlace cX0_hasPlace 2 (some .boolean), Cond.fieldLink RX0 15 "MajorityIndex$Row" "length" "I", Cond.methodLink RX4 71 yX4_laidTree, Cond.instanceMethod yX4_laidTree, Cond.selects RX4 yX4_laidTree yX4_laidTree, Cond.initialized RX4, Cond.code yX4_laidTree cX4_laidTree 1 (some (.object "MajorityIndex$Tree")), Cond.fieldLink RX4 53 "MajorityIndex" "treeIsOld" "Z", Cond.fieldLink RX4 21 "MajorityIndex" "tree" "LMajorityIndex$Tree;", Cond.fieldLink RX4 49 "MajorityIndex" "slotsNow" "I", Cond.fieldLink RX4 204 "MajorityIndex$Tree" "slotsHere" "I", Cond.fieldLink RX4 57 "MajorityIndex$Row" "length" "I"]
def wsX4_swap_r2 : List Cond := [Cond.methodLink RX4 259 yX2_layRanges, Cond.instanceMethod yX2_layRanges, Cond.selects RX2 yX2_layRanges yX2_layRanges, Cond.initialized RX2, Cond.code yX2_layRanges cX2_layRanges 2 none, Cond.fieldLink RX2 40 "MajorityIndex$Tree" "row" "LMajorityIndex$Row;", Cond.fieldLink RX2 44 "MajorityIndex$Row" "length" "I", Cond.fieldLink RX2 50 "MajorityIndex$Tree" "nodes" "I", Cond.fieldLink RX2 18 "MajorityIndex$Tree" "from" "[I", Cond.fieldLink RX2 22 "MajorityIndex$Tree" "to" "[I", Cond.methodLink RX2 53 yX2_layBelow, Cond.instanceMethod yX2_layBelow, Cond.selects RX2 yX2_layBelow yX2_layBelow, Cond.code yX2_layBelow cX2_layBelow 4 none, Cond.methodLink RX2 57 yX2_rightBelow, Cond.instanceMethod yX2_rightBelow, Cond.selects RX2 yX2_rightBelow yX2_rightBelow, Cond.code yX2_rightBelow cX2_rightBelow 3 (some .int), Cond.methodLink RX4 87 yX2_renew, Cond.instanceMethod yX2_renew, Cond.selects RX2 yX2_renew yX2_renew, Cond.code yX2_renew cX2_renew 5 (some .int), Cond.methodLink RX2 61 yX2_putTogether, Cond.instanceMethod yX2_putTogether]
def wsX4_swap_r3 : List Cond := [Cond.selects RX2 yX2_putTogether yX2_putTogether, Cond.code yX2_putTogether cX2_putTogether 2 none, Cond.fieldLink RX2 12 "MajorityIndex$Tree" "joined" "LMajorityIndex$Votes;", Cond.fieldLink RX2 74 "MajorityIndex$Row" "cell" "[I", Cond.fieldLink RX2 85 "MajorityIndex$Tree" "slotsHere" "I", Cond.methodLink RX2 71 yX3_clear, Cond.instanceMethod yX3_clear, Cond.selects RX3 yX3_clear yX3_clear, Cond.initialized RX3, Cond.code yX3_clear cX3_clear 1 none, Cond.fieldLink RX3 18 "MajorityIndex$Votes" "size" "I", Cond.fieldLink RX3 22 "MajorityIndex$Votes" "lost" "I", Cond.fieldLink RX3 25 "MajorityIndex$Votes" "lessBy" "I", Cond.methodLink RX2 77 yX3_add, Cond.instanceMethod yX3_add, Cond.selects RX3 yX3_add yX3_add, Cond.code yX3_add cX3_add 4 none, Cond.fieldLink RX3 9 "MajorityIndex$Votes" "value" "[I", Cond.fieldLink RX3 15 "MajorityIndex$Votes" "number" "[I", Cond.methodLink RX2 81 yX2_joinNode, Cond.instanceMethod yX2_joinNode, Cond.selects RX2 yX2_joinNode yX2_joinNode, Cond.code yX2_joinNode cX2_joinNode 5 none, Cond.fieldLink RX2 25 "MajorityIndex$Tree" "size" "[I"]
def wsX4_swap_r4 : List Cond := [Cond.fieldLink RX2 34 "MajorityIndex$Tree" "value" "[I", Cond.fieldLink RX2 37 "MajorityIndex$Tree" "number" "[I", Cond.fieldLink RX2 91 "MajorityIndex$Votes" "lost" "I", Cond.fieldLink RX2 28 "MajorityIndex$Tree" "lossOf" "[I", Cond.methodLink RX2 88 yX3_cancel, Cond.instanceMethod yX3_cancel, Cond.selects RX3 yX3_cancel yX3_cancel, Cond.code yX3_cancel cX3_cancel 4 none, Cond.methodLink RX3 32 yX3_order, Cond.instanceMethod yX3_order, Cond.selects RX3 yX3_order yX3_order, Cond.code yX3_order cX3_order 3 none, Cond.methodLink RX3 35 yX3_isAhead, Cond.instanceMethod yX3_isAhead, Cond.selects RX3 yX3_isAhead yX3_isAhead, Cond.code yX3_isAhead cX3_isAhead 3 (some .boolean), Cond.methodLink RX3 39 yX3_exchange, Cond.instanceMethod yX3_exchange, Cond.selects RX3 yX3_exchange yX3_exchange, Cond.code yX3_exchange cX3_exchange 5 none, Cond.methodLink RX2 64 yX2_isJoined, Cond.instanceMethod yX2_isJoined, Cond.selects RX2 yX2_isJoined yX2_isJoined, Cond.code yX2_isJoined cX2_isJoined 4 (some .boolean)]
def wsX4_swap_r5 : List Cond := [Cond.fieldLink RX2 94 "MajorityIndex$Votes" "size" "I", Cond.fieldLink RX2 96 "MajorityIndex$Votes" "value" "[I", Cond.fieldLink RX2 97 "MajorityIndex$Votes" "number" "[I", Cond.methodLink RX2 68 yX2_keepJoined, Cond.instanceMethod yX2_keepJoined, Cond.selects RX2 yX2_keepJoined yX2_keepJoined, Cond.code yX2_keepJoined cX2_keepJoined 4 none, Cond.methodLink RX2 98 Lib.Math.min.name, Cond.fieldLink RX2 31 "MajorityIndex$Tree" "lessBy" "[I", Cond.fieldLink RX2 104 "MajorityIndex$Votes" "lessBy" "I", Cond.methodLink RX4 83 yX0_exchange, Cond.instanceMethod yX0_exchange, Cond.selects RX0 yX0_exchange yX0_exchange, Cond.code yX0_exchange cX0_exchange 4 none, Cond.fieldLink RX0 9 "MajorityIndex$Row" "cell" "[I"]
def wsX4_swap : List Cond := .code yX4_swap cX4_swap 4 (some .int) :: ((wsX4_swap_r1 ++ (wsX4_swap_r2 ++ (wsX4_swap_r3 ++ (wsX4_swap_r4 ++ wsX4_swap_r5)))) ++ wsX40 ++ wsX00 ++ wsX20 ++ wsX30)
def wsX4_heavyValues : List Cond := .code yX4_heavyValues cX4_heavyValues 8 (some .int) :: ([.fieldLink RX4 12 "MajorityIndex" "row" "LMajorityIndex$Row;", .fieldLink RX4 110 "MajorityIndex$Row" "cell" "[I", .methodLink RX4 113 yX0_oftenIn, .instanceMethod yX0_oftenIn, .selects RX0 yX0_oftenIn yX0_oftenIn, .initialized RX0, .code yX0_oftenIn cX0_oftenIn 6 (some .int), .fieldLink RX0 9 "MajorityIndex$Row" "cell" "[I", .methodLink RX4 273 yX4_isHeavy, .static yX4_isHeavy, .initialized RX4, .code yX4_isHeavy cX4_isHeavy 4 (some .boolean)] ++ wsX40 ++ wsX00)
def wsX4_heavyVotesBy_r1 : List Cond := [Cond.fieldLink RX4 204 "MajorityIndex$Tree" "slotsHere" "I", Cond.fieldLink RX4 35 "MajorityIndex" "votes" "LMajorityIndex$Votes;", Cond.fieldLink RX4 174 "MajorityIndex$Votes" "size" "I", Cond.fieldLink RX4 12 "MajorityIndex" "row" "LMajorityIndex$Row;", Cond.fieldLink RX4 133 "MajorityIndex$Votes" "value" "[I", Cond.methodLink RX4 87 yX2_renew, Cond.instanceMethod yX2_renew, Cond.selects RX2 yX2_renew yX2_renew, Cond.initialized RX2, Cond.code yX2_renew cX2_renew 5 (some .int), Cond.fieldLink RX2 50 "MajorityIndex$Tree" "nodes" "I", Cond.fieldLink RX2 18 "MajorityIndex$Tree" "from" "[I", Cond.fieldLink RX2 22 "MajorityIndex$Tree" "to" "[I", Cond.methodLink RX2 61 yX2_putTogether, Cond.instanceMethod yX2_putTogether, Cond.selects RX2 yX2_putTogether yX2_putTogether, Cond.code yX2_putTogether cX2_putTogether 2 none, Cond.fieldLink RX2 12 "MajorityIndex$Tree" "joined" "LMajorityIndex$Votes;", Cond.fieldLink RX2 40 "MajorityIndex$Tree" "row" "LMajorityIndex$Row;", Cond.fieldLink RX2 74 "MajorityIndex$Row" "cell" "[I", Cond.fieldLink RX2 85 "MajorityIndex$Tree" "slotsHere" "I", Cond.methodLink RX2 71 yX3_clear, Cond.instanceMethod yX3_clear, Cond.selects RX3 yX3_clear yX3_clear]
def wsX4_heavyVotesBy_r2 : List Cond := [Cond.initialized RX3, Cond.code yX3_clear cX3_clear 1 none, Cond.fieldLink RX3 18 "MajorityIndex$Votes" "size" "I", Cond.fieldLink RX3 22 "MajorityIndex$Votes" "lost" "I", Cond.fieldLink RX3 25 "MajorityIndex$Votes" "lessBy" "I", Cond.methodLink RX2 77 yX3_add, Cond.instanceMethod yX3_add, Cond.selects RX3 yX3_add yX3_add, Cond.code yX3_add cX3_add 4 none, Cond.fieldLink RX3 9 "MajorityIndex$Votes" "value" "[I", Cond.fieldLink RX3 15 "MajorityIndex$Votes" "number" "[I", Cond.methodLink RX2 81 yX2_joinNode, Cond.instanceMethod yX2_joinNode, Cond.selects RX2 yX2_joinNode yX2_joinNode, Cond.code yX2_joinNode cX2_joinNode 5 none, Cond.fieldLink RX2 25 "MajorityIndex$Tree" "size" "[I", Cond.fieldLink RX2 34 "MajorityIndex$Tree" "value" "[I", Cond.fieldLink RX2 37 "MajorityIndex$Tree" "number" "[I", Cond.fieldLink RX2 91 "MajorityIndex$Votes" "lost" "I", Cond.fieldLink RX2 28 "MajorityIndex$Tree" "lossOf" "[I", Cond.methodLink RX2 57 yX2_rightBelow, Cond.instanceMethod yX2_rightBelow, Cond.selects RX2 yX2_rightBelow yX2_rightBelow, Cond.code yX2_rightBelow cX2_rightBelow 3 (some .int)]
def wsX4_heavyVotesBy_r3 : List Cond := [Cond.methodLink RX2 88 yX3_cancel, Cond.instanceMethod yX3_cancel, Cond.selects RX3 yX3_cancel yX3_cancel, Cond.code yX3_cancel cX3_cancel 4 none, Cond.methodLink RX3 32 yX3_order, Cond.instanceMethod yX3_order, Cond.selects RX3 yX3_order yX3_order, Cond.code yX3_order cX3_order 3 none, Cond.methodLink RX3 35 yX3_isAhead, Cond.instanceMethod yX3_isAhead, Cond.selects RX3 yX3_isAhead yX3_isAhead, Cond.code yX3_isAhead cX3_isAhead 3 (some .boolean), Cond.methodLink RX3 39 yX3_exchange, Cond.instanceMethod yX3_exchange, Cond.selects RX3 yX3_exchange yX3_exchange, Cond.code yX3_exchange cX3_exchange 5 none, Cond.methodLink RX2 64 yX2_isJoined, Cond.instanceMethod yX2_isJoined, Cond.selects RX2 yX2_isJoined yX2_isJoined, Cond.code yX2_isJoined cX2_isJoined 4 (some .boolean), Cond.fieldLink RX2 94 "MajorityIndex$Votes" "size" "I", Cond.fieldLink RX2 96 "MajorityIndex$Votes" "value" "[I", Cond.fieldLink RX2 97 "MajorityIndex$Votes" "number" "[I", Cond.methodLink RX2 68 yX2_keepJoined]
def wsX4_heavyVotesBy_r4 : List Cond := [Cond.instanceMethod yX2_keepJoined, Cond.selects RX2 yX2_keepJoined yX2_keepJoined, Cond.code yX2_keepJoined cX2_keepJoined 4 none, Cond.methodLink RX2 98 Lib.Math.min.name, Cond.static Lib.Math.min.name, Cond.initialized "java/lang/Math", Cond.code Lib.Math.min.name Lib.Math.min.code 2 (some .int), Cond.fieldLink RX2 31 "MajorityIndex$Tree" "lessBy" "[I", Cond.fieldLink RX2 104 "MajorityIndex$Votes" "lessBy" "I", Cond.methodLink RX4 170 yX2_gather, Cond.instanceMethod yX2_gather, Cond.selects RX2 yX2_gather yX2_gather, Cond.code yX2_gather cX2_gather 6 none, Cond.methodLink RX2 106 yX2_isPart, Cond.instanceMethod yX2_isPart, Cond.selects RX2 yX2_isPart yX2_isPart, Cond.code yX2_isPart cX2_isPart 4 (some .boolean), Cond.methodLink RX4 113 yX0_oftenIn, Cond.instanceMethod yX0_oftenIn, Cond.selects RX0 yX0_oftenIn yX0_oftenIn, Cond.initialized RX0, Cond.code yX0_oftenIn cX0_oftenIn 6 (some .int), Cond.fieldLink RX0 9 "MajorityIndex$Row" "cell" "[I", Cond.methodLink RX4 273 yX4_isHeavy]
def wsX4_heavyVotesBy_r5 : List Cond := [Cond.static yX4_isHeavy, Cond.initialized RX4, Cond.code yX4_isHeavy cX4_isHeavy 4 (some .boolean)]
def wsX4_heavyVotesBy : List Cond := .code yX4_heavyVotesBy cX4_heavyVotesBy 9 (some .int) :: ((wsX4_heavyVotesBy_r1 ++ (wsX4_heavyVotesBy_r2 ++ (wsX4_heavyVotesBy_r3 ++ (wsX4_heavyVotesBy_r4 ++ wsX4_heavyVotesBy_r5)))) ++ wsX20 ++ wsX40 ++ wsX30 ++ wsX00)
def wsX4_least_r1 : List Cond := [Cond.fieldLink RX4 12 "MajorityIndex" "row" "LMajorityIndex$Row;", Cond.fieldLink RX4 49 "MajorityIndex" "slotsNow" "I", Cond.fieldLink RX4 204 "MajorityIndex$Tree" "slotsHere" "I", Cond.methodLink RX4 79 yX0_hasRange, Cond.instanceMethod yX0_hasRange, Cond.selects RX0 yX0_hasRange yX0_hasRange, Cond.initialized RX0, Cond.code yX0_hasRange cX0_hasRange 3 (some .boolean), Cond.fieldLink RX0 15 "MajorityIndex$Row" "length" "I", Cond.methodLink RX4 186 yX4_isShare, Cond.static yX4_isShare, Cond.initialized RX4, Cond.code yX4_isShare cX4_isShare 2 (some .boolean), Cond.methodLink RX4 196 yX4_heavyValues, Cond.instanceMethod yX4_heavyValues, Cond.selects RX4 yX4_heavyValues yX4_heavyValues, Cond.code yX4_heavyValues cX4_heavyValues 8 (some .int), Cond.fieldLink RX4 110 "MajorityIndex$Row" "cell" "[I", Cond.methodLink RX4 113 yX0_oftenIn, Cond.instanceMethod yX0_oftenIn, Cond.selects RX0 yX0_oftenIn yX0_oftenIn, Cond.code yX0_oftenIn cX0_oftenIn 6 (some .int), Cond.fieldLink RX0 9 "MajorityIndex$Row" "cell" "[I", Cond.methodLink RX4 273 yX4_isHeavy]
def wsX4_least_r2 : List Cond := [Cond.static yX4_isHeavy, Cond.code yX4_isHeavy cX4_isHeavy 4 (some .boolean), Cond.methodLink RX4 71 yX4_laidTree, Cond.instanceMethod yX4_laidTree, Cond.selects RX4 yX4_laidTree yX4_laidTree, Cond.code yX4_laidTree cX4_laidTree 1 (some (.object "MajorityIndex$Tree")), Cond.fieldLink RX4 53 "MajorityIndex" "treeIsOld" "Z", Cond.fieldLink RX4 21 "MajorityIndex" "tree" "LMajorityIndex$Tree;", Cond.fieldLink RX4 57 "MajorityIndex$Row" "length" "I", Cond.methodLink RX4 259 yX2_layRanges, Cond.instanceMethod yX2_layRanges, Cond.selects RX2 yX2_layRanges yX2_layRanges, Cond.initialized RX2, Cond.code yX2_layRanges cX2_layRanges 2 none, Cond.fieldLink RX2 40 "MajorityIndex$Tree" "row" "LMajorityIndex$Row;", Cond.fieldLink RX2 44 "MajorityIndex$Row" "length" "I", Cond.fieldLink RX2 50 "MajorityIndex$Tree" "nodes" "I", Cond.fieldLink RX2 18 "MajorityIndex$Tree" "from" "[I", Cond.fieldLink RX2 22 "MajorityIndex$Tree" "to" "[I", Cond.methodLink RX2 53 yX2_layBelow, Cond.instanceMethod yX2_layBelow, Cond.selects RX2 yX2_layBelow yX2_layBelow, Cond.code yX2_layBelow cX2_layBelow 4 none, Cond.methodLink RX2 57 yX2_rightBelow]
def wsX4_least_r3 : List Cond := [Cond.instanceMethod yX2_rightBelow, Cond.selects RX2 yX2_rightBelow yX2_rightBelow, Cond.code yX2_rightBelow cX2_rightBelow 3 (some .int), Cond.methodLink RX4 87 yX2_renew, Cond.instanceMethod yX2_renew, Cond.selects RX2 yX2_renew yX2_renew, Cond.code yX2_renew cX2_renew 5 (some .int), Cond.methodLink RX2 61 yX2_putTogether, Cond.instanceMethod yX2_putTogether, Cond.selects RX2 yX2_putTogether yX2_putTogether, Cond.code yX2_putTogether cX2_putTogether 2 none, Cond.fieldLink RX2 12 "MajorityIndex$Tree" "joined" "LMajorityIndex$Votes;", Cond.fieldLink RX2 74 "MajorityIndex$Row" "cell" "[I", Cond.fieldLink RX2 85 "MajorityIndex$Tree" "slotsHere" "I", Cond.methodLink RX2 71 yX3_clear, Cond.instanceMethod yX3_clear, Cond.selects RX3 yX3_clear yX3_clear, Cond.initialized RX3, Cond.code yX3_clear cX3_clear 1 none, Cond.fieldLink RX3 18 "MajorityIndex$Votes" "size" "I", Cond.fieldLink RX3 22 "MajorityIndex$Votes" "lost" "I", Cond.fieldLink RX3 25 "MajorityIndex$Votes" "lessBy" "I", Cond.methodLink RX2 77 yX3_add, Cond.instanceMethod yX3_add]
def wsX4_least_r4 : List Cond := [Cond.selects RX3 yX3_add yX3_add, Cond.code yX3_add cX3_add 4 none, Cond.fieldLink RX3 9 "MajorityIndex$Votes" "value" "[I", Cond.fieldLink RX3 15 "MajorityIndex$Votes" "number" "[I", Cond.methodLink RX2 81 yX2_joinNode, Cond.instanceMethod yX2_joinNode, Cond.selects RX2 yX2_joinNode yX2_joinNode, Cond.code yX2_joinNode cX2_joinNode 5 none, Cond.fieldLink RX2 25 "MajorityIndex$Tree" "size" "[I", Cond.fieldLink RX2 34 "MajorityIndex$Tree" "value" "[I", Cond.fieldLink RX2 37 "MajorityIndex$Tree" "number" "[I", Cond.fieldLink RX2 91 "MajorityIndex$Votes" "lost" "I", Cond.fieldLink RX2 28 "MajorityIndex$Tree" "lossOf" "[I", Cond.methodLink RX2 88 yX3_cancel, Cond.instanceMethod yX3_cancel, Cond.selects RX3 yX3_cancel yX3_cancel, Cond.code yX3_cancel cX3_cancel 4 none, Cond.methodLink RX3 32 yX3_order, Cond.instanceMethod yX3_order, Cond.selects RX3 yX3_order yX3_order, Cond.code yX3_order cX3_order 3 none, Cond.methodLink RX3 35 yX3_isAhead, Cond.instanceMethod yX3_isAhead, Cond.selects RX3 yX3_isAhead yX3_isAhead]
def wsX4_least_r5 : List Cond := [Cond.code yX3_isAhead cX3_isAhead 3 (some .boolean), Cond.methodLink RX3 39 yX3_exchange, Cond.instanceMethod yX3_exchange, Cond.selects RX3 yX3_exchange yX3_exchange, Cond.code yX3_exchange cX3_exchange 5 none, Cond.methodLink RX2 64 yX2_isJoined, Cond.instanceMethod yX2_isJoined, Cond.selects RX2 yX2_isJoined yX2_isJoined, Cond.code yX2_isJoined cX2_isJoined 4 (some .boolean), Cond.fieldLink RX2 94 "MajorityIndex$Votes" "size" "I", Cond.fieldLink RX2 96 "MajorityIndex$Votes" "value" "[I", Cond.fieldLink RX2 97 "MajorityIndex$Votes" "number" "[I", Cond.methodLink RX2 68 yX2_keepJoined, Cond.instanceMethod yX2_keepJoined, Cond.selects RX2 yX2_keepJoined yX2_keepJoined, Cond.code yX2_keepJoined cX2_keepJoined 4 none, Cond.methodLink RX2 98 Lib.Math.min.name, Cond.static Lib.Math.min.name, Cond.initialized "java/lang/Math", Cond.code Lib.Math.min.name Lib.Math.min.code 2 (some .int), Cond.fieldLink RX2 31 "MajorityIndex$Tree" "lessBy" "[I", Cond.fieldLink RX2 104 "MajorityIndex$Votes" "lessBy" "I", Cond.methodLink RX4 200 yX4_heavyVotesBy, Cond.instanceMethod yX4_heavyVotesBy]
def wsX4_least_r6 : List Cond := [Cond.selects RX4 yX4_heavyVotesBy yX4_heavyVotesBy, Cond.code yX4_heavyVotesBy cX4_heavyVotesBy 9 (some .int), Cond.fieldLink RX4 35 "MajorityIndex" "votes" "LMajorityIndex$Votes;", Cond.fieldLink RX4 174 "MajorityIndex$Votes" "size" "I", Cond.fieldLink RX4 133 "MajorityIndex$Votes" "value" "[I", Cond.methodLink RX4 170 yX2_gather, Cond.instanceMethod yX2_gather, Cond.selects RX2 yX2_gather yX2_gather, Cond.code yX2_gather cX2_gather 6 none, Cond.methodLink RX2 106 yX2_isPart, Cond.instanceMethod yX2_isPart, Cond.selects RX2 yX2_isPart yX2_isPart, Cond.code yX2_isPart cX2_isPart 4 (some .boolean)]
def wsX4_least : List Cond := .code yX4_least cX4_least 9 (some .int) :: ((wsX4_least_r1 ++ (wsX4_least_r2 ++ (wsX4_least_r3 ++ (wsX4_least_r4 ++ (wsX4_least_r5 ++ wsX4_least_r6))))) ++ wsX40 ++ wsX20 ++ wsX00 ++ wsX30)
def wsX4_refusalOfBoth : List Cond := .code yX4_refusalOfBoth cX4_refusalOfBoth 7 (some .int) :: ([.fieldLink RX4 12 "MajorityIndex" "row" "LMajorityIndex$Row;", .methodLink RX4 79 yX0_hasRange, .instanceMethod yX0_hasRange, .selects RX0 yX0_hasRange yX0_hasRange, .initialized RX0, .code yX0_hasRange cX0_hasRange 3 (some .boolean), .fieldLink RX0 15 "MajorityIndex$Row" "length" "I", .methodLink RX4 186 yX4_isShare, .static yX4_isShare, .initialized RX4, .code yX4_isShare cX4_isShare 2 (some .boolean), .methodLink RX4 189 yX4_isEnough, .instanceMethod yX4_isEnough, .selects RX4 yX4_isEnough yX4_isEnough, .code yX4_isEnough cX4_isEnough 3 (some .boolean), .fieldLink RX4 49 "MajorityIndex" "slotsNow" "I"] ++ wsX40 ++ wsX00)
def wsX4_gatherHeavyOfBoth_r1 : List Cond := [Cond.fieldLink RX4 35 "MajorityIndex" "votes" "LMajorityIndex$Votes;", Cond.methodLink RX4 91 Lib.Math.min.name, Cond.static Lib.Math.min.name, Cond.initialized "java/lang/Math", Cond.code Lib.Math.min.name Lib.Math.min.code 2 (some .int), Cond.fieldLink RX4 39 "MajorityIndex" "otherVotes" "LMajorityIndex$Votes;", Cond.methodLink RX4 96 Lib.Math.max.name, Cond.static Lib.Math.max.name, Cond.code Lib.Math.max.name Lib.Math.max.code 2 (some .int), Cond.fieldLink RX4 49 "MajorityIndex" "slotsNow" "I", Cond.fieldLink RX4 174 "MajorityIndex$Votes" "size" "I", Cond.fieldLink RX4 133 "MajorityIndex$Votes" "value" "[I", Cond.fieldLink RX4 136 "MajorityIndex$Votes" "number" "[I", Cond.fieldLink RX4 12 "MajorityIndex" "row" "LMajorityIndex$Row;", Cond.methodLink RX4 170 yX2_gather, Cond.instanceMethod yX2_gather, Cond.selects RX2 yX2_gather yX2_gather, Cond.initialized RX2, Cond.code yX2_gather cX2_gather 6 none, Cond.fieldLink RX2 50 "MajorityIndex$Tree" "nodes" "I", Cond.fieldLink RX2 22 "MajorityIndex$Tree" "to" "[I", Cond.fieldLink RX2 85 "MajorityIndex$Tree" "slotsHere" "I", Cond.methodLink RX2 71 yX3_clear, Cond.instanceMethod yX3_clear]
def wsX4_gatherHeavyOfBoth_r2 : List Cond := [Cond.selects RX3 yX3_clear yX3_clear, Cond.initialized RX3, Cond.code yX3_clear cX3_clear 1 none, Cond.fieldLink RX3 18 "MajorityIndex$Votes" "size" "I", Cond.fieldLink RX3 22 "MajorityIndex$Votes" "lost" "I", Cond.fieldLink RX3 25 "MajorityIndex$Votes" "lessBy" "I", Cond.methodLink RX2 106 yX2_isPart, Cond.instanceMethod yX2_isPart, Cond.selects RX2 yX2_isPart yX2_isPart, Cond.code yX2_isPart cX2_isPart 4 (some .boolean), Cond.fieldLink RX2 18 "MajorityIndex$Tree" "from" "[I", Cond.methodLink RX2 81 yX2_joinNode, Cond.instanceMethod yX2_joinNode, Cond.selects RX2 yX2_joinNode yX2_joinNode, Cond.code yX2_joinNode cX2_joinNode 5 none, Cond.fieldLink RX2 25 "MajorityIndex$Tree" "size" "[I", Cond.fieldLink RX2 34 "MajorityIndex$Tree" "value" "[I", Cond.fieldLink RX2 37 "MajorityIndex$Tree" "number" "[I", Cond.fieldLink RX2 91 "MajorityIndex$Votes" "lost" "I", Cond.fieldLink RX2 28 "MajorityIndex$Tree" "lossOf" "[I", Cond.methodLink RX2 77 yX3_add, Cond.instanceMethod yX3_add, Cond.selects RX3 yX3_add yX3_add, Cond.code yX3_add cX3_add 4 none]
def wsX4_gatherHeavyOfBoth_r3 : List Cond := [Cond.fieldLink RX3 9 "MajorityIndex$Votes" "value" "[I", Cond.fieldLink RX3 15 "MajorityIndex$Votes" "number" "[I", Cond.methodLink RX2 88 yX3_cancel, Cond.instanceMethod yX3_cancel, Cond.selects RX3 yX3_cancel yX3_cancel, Cond.code yX3_cancel cX3_cancel 4 none, Cond.methodLink RX3 32 yX3_order, Cond.instanceMethod yX3_order, Cond.selects RX3 yX3_order yX3_order, Cond.code yX3_order cX3_order 3 none, Cond.methodLink RX3 35 yX3_isAhead, Cond.instanceMethod yX3_isAhead, Cond.selects RX3 yX3_isAhead yX3_isAhead, Cond.code yX3_isAhead cX3_isAhead 3 (some .boolean), Cond.methodLink RX3 39 yX3_exchange, Cond.instanceMethod yX3_exchange, Cond.selects RX3 yX3_exchange yX3_exchange, Cond.code yX3_exchange cX3_exchange 5 none, Cond.methodLink RX4 266 yX3_join, Cond.instanceMethod yX3_join, Cond.selects RX3 yX3_join yX3_join, Cond.code yX3_join cX3_join 3 none, Cond.methodLink RX3 28 yX3_add, Cond.methodLink RX4 270 yX3_cancel]
def wsX4_gatherHeavyOfBoth_r4 : List Cond := [Cond.methodLink RX4 113 yX0_oftenIn, Cond.instanceMethod yX0_oftenIn, Cond.selects RX0 yX0_oftenIn yX0_oftenIn, Cond.initialized RX0, Cond.code yX0_oftenIn cX0_oftenIn 6 (some .int), Cond.fieldLink RX0 9 "MajorityIndex$Row" "cell" "[I", Cond.methodLink RX4 262 yX3_keepHeavy, Cond.instanceMethod yX3_keepHeavy, Cond.selects RX3 yX3_keepHeavy yX3_keepHeavy, Cond.code yX3_keepHeavy cX3_keepHeavy 6 none, Cond.static yX4_isHeavy, Cond.initialized RX4, Cond.code yX4_isHeavy cX4_isHeavy 4 (some .boolean)]
def wsX4_gatherHeavyOfBoth : List Cond := .code yX4_gatherHeavyOfBoth cX4_gatherHeavyOfBoth 10 none :: ((wsX4_gatherHeavyOfBoth_r1 ++ (wsX4_gatherHeavyOfBoth_r2 ++ (wsX4_gatherHeavyOfBoth_r3 ++ wsX4_gatherHeavyOfBoth_r4))) ++ wsX40 ++ wsX30 ++ wsX20 ++ wsX00)
def wsX4_both_r1 : List Cond := [Cond.fieldLink RX4 35 "MajorityIndex" "votes" "LMajorityIndex$Votes;", Cond.fieldLink RX4 174 "MajorityIndex$Votes" "size" "I", Cond.methodLink RX4 210 yX4_refusalOfBoth, Cond.instanceMethod yX4_refusalOfBoth, Cond.selects RX4 yX4_refusalOfBoth yX4_refusalOfBoth, Cond.initialized RX4, Cond.code yX4_refusalOfBoth cX4_refusalOfBoth 7 (some .int), Cond.fieldLink RX4 12 "MajorityIndex" "row" "LMajorityIndex$Row;", Cond.methodLink RX4 79 yX0_hasRange, Cond.instanceMethod yX0_hasRange, Cond.selects RX0 yX0_hasRange yX0_hasRange, Cond.initialized RX0, Cond.code yX0_hasRange cX0_hasRange 3 (some .boolean), Cond.fieldLink RX0 15 "MajorityIndex$Row" "length" "I", Cond.methodLink RX4 186 yX4_isShare, Cond.static yX4_isShare, Cond.code yX4_isShare cX4_isShare 2 (some .boolean), Cond.methodLink RX4 189 yX4_isEnough, Cond.instanceMethod yX4_isEnough, Cond.selects RX4 yX4_isEnough yX4_isEnough, Cond.code yX4_isEnough cX4_isEnough 3 (some .boolean), Cond.fieldLink RX4 49 "MajorityIndex" "slotsNow" "I", Cond.methodLink RX4 71 yX4_laidTree, Cond.instanceMethod yX4_laidTree]
def wsX4_both_r2 : List Cond := [Cond.selects RX4 yX4_laidTree yX4_laidTree, Cond.code yX4_laidTree cX4_laidTree 1 (some (.object "MajorityIndex$Tree")), Cond.fieldLink RX4 53 "MajorityIndex" "treeIsOld" "Z", Cond.fieldLink RX4 21 "MajorityIndex" "tree" "LMajorityIndex$Tree;", Cond.fieldLink RX4 204 "MajorityIndex$Tree" "slotsHere" "I", Cond.fieldLink RX4 57 "MajorityIndex$Row" "length" "I", Cond.methodLink RX4 259 yX2_layRanges, Cond.instanceMethod yX2_layRanges, Cond.selects RX2 yX2_layRanges yX2_layRanges, Cond.initialized RX2, Cond.code yX2_layRanges cX2_layRanges 2 none, Cond.fieldLink RX2 40 "MajorityIndex$Tree" "row" "LMajorityIndex$Row;", Cond.fieldLink RX2 44 "MajorityIndex$Row" "length" "I", Cond.fieldLink RX2 50 "MajorityIndex$Tree" "nodes" "I", Cond.fieldLink RX2 18 "MajorityIndex$Tree" "from" "[I", Cond.fieldLink RX2 22 "MajorityIndex$Tree" "to" "[I", Cond.methodLink RX2 53 yX2_layBelow, Cond.instanceMethod yX2_layBelow, Cond.selects RX2 yX2_layBelow yX2_layBelow, Cond.code yX2_layBelow cX2_layBelow 4 none, Cond.methodLink RX2 57 yX2_rightBelow, Cond.instanceMethod yX2_rightBelow, Cond.selects RX2 yX2_rightBelow yX2_rightBelow, Cond.code yX2_rightBelow cX2_rightBelow 3 (some .int)]
def wsX4_both_r3 : List Cond := [Cond.methodLink RX4 87 yX2_renew, Cond.instanceMethod yX2_renew, Cond.selects RX2 yX2_renew yX2_renew, Cond.code yX2_renew cX2_renew 5 (some .int), Cond.methodLink RX2 61 yX2_putTogether, Cond.instanceMethod yX2_putTogether, Cond.selects RX2 yX2_putTogether yX2_putTogether, Cond.code yX2_putTogether cX2_putTogether 2 none, Cond.fieldLink RX2 12 "MajorityIndex$Tree" "joined" "LMajorityIndex$Votes;", Cond.fieldLink RX2 74 "MajorityIndex$Row" "cell" "[I", Cond.fieldLink RX2 85 "MajorityIndex$Tree" "slotsHere" "I", Cond.methodLink RX2 71 yX3_clear, Cond.instanceMethod yX3_clear, Cond.selects RX3 yX3_clear yX3_clear, Cond.initialized RX3, Cond.code yX3_clear cX3_clear 1 none, Cond.fieldLink RX3 18 "MajorityIndex$Votes" "size" "I", Cond.fieldLink RX3 22 "MajorityIndex$Votes" "lost" "I", Cond.fieldLink RX3 25 "MajorityIndex$Votes" "lessBy" "I", Cond.methodLink RX2 77 yX3_add, Cond.instanceMethod yX3_add, Cond.selects RX3 yX3_add yX3_add, Cond.code yX3_add cX3_add 4 none, Cond.fieldLink RX3 9 "MajorityIndex$Votes" "value" "[I"]
def wsX4_both_r4 : List Cond := [Cond.fieldLink RX3 15 "MajorityIndex$Votes" "number" "[I", Cond.methodLink RX2 81 yX2_joinNode, Cond.instanceMethod yX2_joinNode, Cond.selects RX2 yX2_joinNode yX2_joinNode, Cond.code yX2_joinNode cX2_joinNode 5 none, Cond.fieldLink RX2 25 "MajorityIndex$Tree" "size" "[I", Cond.fieldLink RX2 34 "MajorityIndex$Tree" "value" "[I", Cond.fieldLink RX2 37 "MajorityIndex$Tree" "number" "[I", Cond.fieldLink RX2 91 "MajorityIndex$Votes" "lost" "I", Cond.fieldLink RX2 28 "MajorityIndex$Tree" "lossOf" "[I", Cond.methodLink RX2 88 yX3_cancel, Cond.instanceMethod yX3_cancel, Cond.selects RX3 yX3_cancel yX3_cancel, Cond.code yX3_cancel cX3_cancel 4 none, Cond.methodLink RX3 32 yX3_order, Cond.instanceMethod yX3_order, Cond.selects RX3 yX3_order yX3_order, Cond.code yX3_order cX3_order 3 none, Cond.methodLink RX3 35 yX3_isAhead, Cond.instanceMethod yX3_isAhead, Cond.selects RX3 yX3_isAhead yX3_isAhead, Cond.code yX3_isAhead cX3_isAhead 3 (some .boolean), Cond.methodLink RX3 39 yX3_exchange, Cond.instanceMethod yX3_exchange]
def wsX4_both_r5 : List Cond := [Cond.selects RX3 yX3_exchange yX3_exchange, Cond.code yX3_exchange cX3_exchange 5 none, Cond.methodLink RX2 64 yX2_isJoined, Cond.instanceMethod yX2_isJoined, Cond.selects RX2 yX2_isJoined yX2_isJoined, Cond.code yX2_isJoined cX2_isJoined 4 (some .boolean), Cond.fieldLink RX2 94 "MajorityIndex$Votes" "size" "I", Cond.fieldLink RX2 96 "MajorityIndex$Votes" "value" "[I", Cond.fieldLink RX2 97 "MajorityIndex$Votes" "number" "[I", Cond.methodLink RX2 68 yX2_keepJoined, Cond.instanceMethod yX2_keepJoined, Cond.selects RX2 yX2_keepJoined yX2_keepJoined, Cond.code yX2_keepJoined cX2_keepJoined 4 none, Cond.methodLink RX2 98 Lib.Math.min.name, Cond.static Lib.Math.min.name, Cond.initialized "java/lang/Math", Cond.code Lib.Math.min.name Lib.Math.min.code 2 (some .int), Cond.fieldLink RX2 31 "MajorityIndex$Tree" "lessBy" "[I", Cond.fieldLink RX2 104 "MajorityIndex$Votes" "lessBy" "I", Cond.methodLink RX4 214 yX4_gatherHeavyOfBoth, Cond.instanceMethod yX4_gatherHeavyOfBoth, Cond.selects RX4 yX4_gatherHeavyOfBoth yX4_gatherHeavyOfBoth, Cond.code yX4_gatherHeavyOfBoth cX4_gatherHeavyOfBoth 10 none, Cond.methodLink RX4 91 Lib.Math.min.name]
def wsX4_both_r6 : List Cond := [Cond.fieldLink RX4 39 "MajorityIndex" "otherVotes" "LMajorityIndex$Votes;", Cond.methodLink RX4 96 Lib.Math.max.name, Cond.static Lib.Math.max.name, Cond.code Lib.Math.max.name Lib.Math.max.code 2 (some .int), Cond.fieldLink RX4 133 "MajorityIndex$Votes" "value" "[I", Cond.fieldLink RX4 136 "MajorityIndex$Votes" "number" "[I", Cond.methodLink RX4 170 yX2_gather, Cond.instanceMethod yX2_gather, Cond.selects RX2 yX2_gather yX2_gather, Cond.code yX2_gather cX2_gather 6 none, Cond.methodLink RX2 106 yX2_isPart, Cond.instanceMethod yX2_isPart, Cond.selects RX2 yX2_isPart yX2_isPart, Cond.code yX2_isPart cX2_isPart 4 (some .boolean), Cond.methodLink RX4 266 yX3_join, Cond.instanceMethod yX3_join, Cond.selects RX3 yX3_join yX3_join, Cond.code yX3_join cX3_join 3 none, Cond.methodLink RX3 28 yX3_add, Cond.methodLink RX4 270 yX3_cancel, Cond.methodLink RX4 113 yX0_oftenIn, Cond.instanceMethod yX0_oftenIn, Cond.selects RX0 yX0_oftenIn yX0_oftenIn, Cond.code yX0_oftenIn cX0_oftenIn 6 (some .int)]
def wsX4_both_r7 : List Cond := [Cond.fieldLink RX0 9 "MajorityIndex$Row" "cell" "[I", Cond.methodLink RX4 262 yX3_keepHeavy, Cond.instanceMethod yX3_keepHeavy, Cond.selects RX3 yX3_keepHeavy yX3_keepHeavy, Cond.code yX3_keepHeavy cX3_keepHeavy 6 none, Cond.static yX4_isHeavy, Cond.code yX4_isHeavy cX4_isHeavy 4 (some .boolean)]
def wsX4_both : List Cond := .code yX4_both cX4_both 8 (some .int) :: ((wsX4_both_r1 ++ (wsX4_both_r2 ++ (wsX4_both_r3 ++ (wsX4_both_r4 ++ (wsX4_both_r5 ++ (wsX4_both_r6 ++ wsX4_both_r7)))))) ++ wsX40 ++ wsX30 ++ wsX00 ++ wsX20)
def wsX4_bothAt_r1 : List Cond := [Cond.constant RX4 102 (-40000), Cond.fieldLink RX4 35 "MajorityIndex" "votes" "LMajorityIndex$Votes;", Cond.fieldLink RX4 174 "MajorityIndex$Votes" "size" "I", Cond.fieldLink RX4 133 "MajorityIndex$Votes" "value" "[I", Cond.methodLink RX4 210 yX4_refusalOfBoth, Cond.instanceMethod yX4_refusalOfBoth, Cond.selects RX4 yX4_refusalOfBoth yX4_refusalOfBoth, Cond.initialized RX4, Cond.code yX4_refusalOfBoth cX4_refusalOfBoth 7 (some .int), Cond.fieldLink RX4 12 "MajorityIndex" "row" "LMajorityIndex$Row;", Cond.methodLink RX4 79 yX0_hasRange, Cond.instanceMethod yX0_hasRange, Cond.selects RX0 yX0_hasRange yX0_hasRange, Cond.initialized RX0, Cond.code yX0_hasRange cX0_hasRange 3 (some .boolean), Cond.fieldLink RX0 15 "MajorityIndex$Row" "length" "I", Cond.methodLink RX4 186 yX4_isShare, Cond.static yX4_isShare, Cond.code yX4_isShare cX4_isShare 2 (some .boolean), Cond.methodLink RX4 189 yX4_isEnough, Cond.instanceMethod yX4_isEnough, Cond.selects RX4 yX4_isEnough yX4_isEnough, Cond.code yX4_isEnough cX4_isEnough 3 (some .boolean), Cond.fieldLink RX4 49 "MajorityIndex" "slotsNow" "I"]
def wsX4_bothAt_r2 : List Cond := [Cond.methodLink RX4 71 yX4_laidTree, Cond.instanceMethod yX4_laidTree, Cond.selects RX4 yX4_laidTree yX4_laidTree, Cond.code yX4_laidTree cX4_laidTree 1 (some (.object "MajorityIndex$Tree")), Cond.fieldLink RX4 53 "MajorityIndex" "treeIsOld" "Z", Cond.fieldLink RX4 21 "MajorityIndex" "tree" "LMajorityIndex$Tree;", Cond.fieldLink RX4 204 "MajorityIndex$Tree" "slotsHere" "I", Cond.fieldLink RX4 57 "MajorityIndex$Row" "length" "I", Cond.methodLink RX4 259 yX2_layRanges, Cond.instanceMethod yX2_layRanges, Cond.selects RX2 yX2_layRanges yX2_layRanges, Cond.initialized RX2, Cond.code yX2_layRanges cX2_layRanges 2 none, Cond.fieldLink RX2 40 "MajorityIndex$Tree" "row" "LMajorityIndex$Row;", Cond.fieldLink RX2 44 "MajorityIndex$Row" "length" "I", Cond.fieldLink RX2 50 "MajorityIndex$Tree" "nodes" "I", Cond.fieldLink RX2 18 "MajorityIndex$Tree" "from" "[I", Cond.fieldLink RX2 22 "MajorityIndex$Tree" "to" "[I", Cond.methodLink RX2 53 yX2_layBelow, Cond.instanceMethod yX2_layBelow, Cond.selects RX2 yX2_layBelow yX2_layBelow, Cond.code yX2_layBelow cX2_layBelow 4 none, Cond.methodLink RX2 57 yX2_rightBelow, Cond.instanceMethod yX2_rightBelow]
def wsX4_bothAt_r3 : List Cond := [Cond.selects RX2 yX2_rightBelow yX2_rightBelow, Cond.code yX2_rightBelow cX2_rightBelow 3 (some .int), Cond.methodLink RX4 87 yX2_renew, Cond.instanceMethod yX2_renew, Cond.selects RX2 yX2_renew yX2_renew, Cond.code yX2_renew cX2_renew 5 (some .int), Cond.methodLink RX2 61 yX2_putTogether, Cond.instanceMethod yX2_putTogether, Cond.selects RX2 yX2_putTogether yX2_putTogether, Cond.code yX2_putTogether cX2_putTogether 2 none, Cond.fieldLink RX2 12 "MajorityIndex$Tree" "joined" "LMajorityIndex$Votes;", Cond.fieldLink RX2 74 "MajorityIndex$Row" "cell" "[I", Cond.fieldLink RX2 85 "MajorityIndex$Tree" "slotsHere" "I", Cond.methodLink RX2 71 yX3_clear, Cond.instanceMethod yX3_clear, Cond.selects RX3 yX3_clear yX3_clear, Cond.initialized RX3, Cond.code yX3_clear cX3_clear 1 none, Cond.fieldLink RX3 18 "MajorityIndex$Votes" "size" "I", Cond.fieldLink RX3 22 "MajorityIndex$Votes" "lost" "I", Cond.fieldLink RX3 25 "MajorityIndex$Votes" "lessBy" "I", Cond.methodLink RX2 77 yX3_add, Cond.instanceMethod yX3_add, Cond.selects RX3 yX3_add yX3_add]
def wsX4_bothAt_r4 : List Cond := [Cond.code yX3_add cX3_add 4 none, Cond.fieldLink RX3 9 "MajorityIndex$Votes" "value" "[I", Cond.fieldLink RX3 15 "MajorityIndex$Votes" "number" "[I", Cond.methodLink RX2 81 yX2_joinNode, Cond.instanceMethod yX2_joinNode, Cond.selects RX2 yX2_joinNode yX2_joinNode, Cond.code yX2_joinNode cX2_joinNode 5 none, Cond.fieldLink RX2 25 "MajorityIndex$Tree" "size" "[I", Cond.fieldLink RX2 34 "MajorityIndex$Tree" "value" "[I", Cond.fieldLink RX2 37 "MajorityIndex$Tree" "number" "[I", Cond.fieldLink RX2 91 "MajorityIndex$Votes" "lost" "I", Cond.fieldLink RX2 28 "MajorityIndex$Tree" "lossOf" "[I", Cond.methodLink RX2 88 yX3_cancel, Cond.instanceMethod yX3_cancel, Cond.selects RX3 yX3_cancel yX3_cancel, Cond.code yX3_cancel cX3_cancel 4 none, Cond.methodLink RX3 32 yX3_order, Cond.instanceMethod yX3_order, Cond.selects RX3 yX3_order yX3_order, Cond.code yX3_order cX3_order 3 none, Cond.methodLink RX3 35 yX3_isAhead, Cond.instanceMethod yX3_isAhead, Cond.selects RX3 yX3_isAhead yX3_isAhead, Cond.code yX3_isAhead cX3_isAhead 3 (some .boolean)]
def wsX4_bothAt_r5 : List Cond := [Cond.methodLink RX3 39 yX3_exchange, Cond.instanceMethod yX3_exchange, Cond.selects RX3 yX3_exchange yX3_exchange, Cond.code yX3_exchange cX3_exchange 5 none, Cond.methodLink RX2 64 yX2_isJoined, Cond.instanceMethod yX2_isJoined, Cond.selects RX2 yX2_isJoined yX2_isJoined, Cond.code yX2_isJoined cX2_isJoined 4 (some .boolean), Cond.fieldLink RX2 94 "MajorityIndex$Votes" "size" "I", Cond.fieldLink RX2 96 "MajorityIndex$Votes" "value" "[I", Cond.fieldLink RX2 97 "MajorityIndex$Votes" "number" "[I", Cond.methodLink RX2 68 yX2_keepJoined, Cond.instanceMethod yX2_keepJoined, Cond.selects RX2 yX2_keepJoined yX2_keepJoined, Cond.code yX2_keepJoined cX2_keepJoined 4 none, Cond.methodLink RX2 98 Lib.Math.min.name, Cond.static Lib.Math.min.name, Cond.initialized "java/lang/Math", Cond.code Lib.Math.min.name Lib.Math.min.code 2 (some .int), Cond.fieldLink RX2 31 "MajorityIndex$Tree" "lessBy" "[I", Cond.fieldLink RX2 104 "MajorityIndex$Votes" "lessBy" "I", Cond.methodLink RX4 214 yX4_gatherHeavyOfBoth, Cond.instanceMethod yX4_gatherHeavyOfBoth, Cond.selects RX4 yX4_gatherHeavyOfBoth yX4_gatherHeavyOfBoth]
def wsX4_bothAt_r6 : List Cond := [Cond.code yX4_gatherHeavyOfBoth cX4_gatherHeavyOfBoth 10 none, Cond.methodLink RX4 91 Lib.Math.min.name, Cond.fieldLink RX4 39 "MajorityIndex" "otherVotes" "LMajorityIndex$Votes;", Cond.methodLink RX4 96 Lib.Math.max.name, Cond.static Lib.Math.max.name, Cond.code Lib.Math.max.name Lib.Math.max.code 2 (some .int), Cond.fieldLink RX4 136 "MajorityIndex$Votes" "number" "[I", Cond.methodLink RX4 170 yX2_gather, Cond.instanceMethod yX2_gather, Cond.selects RX2 yX2_gather yX2_gather, Cond.code yX2_gather cX2_gather 6 none, Cond.methodLink RX2 106 yX2_isPart, Cond.instanceMethod yX2_isPart, Cond.selects RX2 yX2_isPart yX2_isPart, Cond.code yX2_isPart cX2_isPart 4 (some .boolean), Cond.methodLink RX4 266 yX3_join, Cond.instanceMethod yX3_join, Cond.selects RX3 yX3_join yX3_join, Cond.code yX3_join cX3_join 3 none, Cond.methodLink RX3 28 yX3_add, Cond.methodLink RX4 270 yX3_cancel, Cond.methodLink RX4 113 yX0_oftenIn, Cond.instanceMethod yX0_oftenIn, Cond.selects RX0 yX0_oftenIn yX0_oftenIn]
def wsX4_bothAt_r7 : List Cond := [Cond.code yX0_oftenIn cX0_oftenIn 6 (some .int), Cond.fieldLink RX0 9 "MajorityIndex$Row" "cell" "[I", Cond.methodLink RX4 262 yX3_keepHeavy, Cond.instanceMethod yX3_keepHeavy, Cond.selects RX3 yX3_keepHeavy yX3_keepHeavy, Cond.code yX3_keepHeavy cX3_keepHeavy 6 none, Cond.static yX4_isHeavy, Cond.code yX4_isHeavy cX4_isHeavy 4 (some .boolean)]
def wsX4_bothAt : List Cond := .code yX4_bothAt cX4_bothAt 8 (some .int) :: ((wsX4_bothAt_r1 ++ (wsX4_bothAt_r2 ++ (wsX4_bothAt_r3 ++ (wsX4_bothAt_r4 ++ (wsX4_bothAt_r5 ++ (wsX4_bothAt_r6 ++ wsX4_bothAt_r7)))))) ++ wsX40 ++ wsX30 ++ wsX00 ++ wsX20)
def wsX4_rootTotalWith_r1 : List Cond := [Cond.fieldLink RX4 12 "MajorityIndex" "row" "LMajorityIndex$Row;", Cond.fieldLink RX4 110 "MajorityIndex$Row" "cell" "[I", Cond.fieldLink RX4 35 "MajorityIndex" "votes" "LMajorityIndex$Votes;", Cond.methodLink RX4 87 yX2_renew, Cond.instanceMethod yX2_renew, Cond.selects RX2 yX2_renew yX2_renew, Cond.initialized RX2, Cond.code yX2_renew cX2_renew 5 (some .int), Cond.fieldLink RX2 50 "MajorityIndex$Tree" "nodes" "I", Cond.fieldLink RX2 18 "MajorityIndex$Tree" "from" "[I", Cond.fieldLink RX2 22 "MajorityIndex$Tree" "to" "[I", Cond.methodLink RX2 61 yX2_putTogether, Cond.instanceMethod yX2_putTogether, Cond.selects RX2 yX2_putTogether yX2_putTogether, Cond.code yX2_putTogether cX2_putTogether 2 none, Cond.fieldLink RX2 12 "MajorityIndex$Tree" "joined" "LMajorityIndex$Votes;", Cond.fieldLink RX2 40 "MajorityIndex$Tree" "row" "LMajorityIndex$Row;", Cond.fieldLink RX2 74 "MajorityIndex$Row" "cell" "[I", Cond.fieldLink RX2 85 "MajorityIndex$Tree" "slotsHere" "I", Cond.methodLink RX2 71 yX3_clear, Cond.instanceMethod yX3_clear, Cond.selects RX3 yX3_clear yX3_clear, Cond.initialized RX3, Cond.code yX3_clear cX3_clear 1 none]
def wsX4_rootTotalWith_r2 : List Cond := [Cond.fieldLink RX3 18 "MajorityIndex$Votes" "size" "I", Cond.fieldLink RX3 22 "MajorityIndex$Votes" "lost" "I", Cond.fieldLink RX3 25 "MajorityIndex$Votes" "lessBy" "I", Cond.methodLink RX2 77 yX3_add, Cond.instanceMethod yX3_add, Cond.selects RX3 yX3_add yX3_add, Cond.code yX3_add cX3_add 4 none, Cond.fieldLink RX3 9 "MajorityIndex$Votes" "value" "[I", Cond.fieldLink RX3 15 "MajorityIndex$Votes" "number" "[I", Cond.methodLink RX2 81 yX2_joinNode, Cond.instanceMethod yX2_joinNode, Cond.selects RX2 yX2_joinNode yX2_joinNode, Cond.code yX2_joinNode cX2_joinNode 5 none, Cond.fieldLink RX2 25 "MajorityIndex$Tree" "size" "[I", Cond.fieldLink RX2 34 "MajorityIndex$Tree" "value" "[I", Cond.fieldLink RX2 37 "MajorityIndex$Tree" "number" "[I", Cond.fieldLink RX2 91 "MajorityIndex$Votes" "lost" "I", Cond.fieldLink RX2 28 "MajorityIndex$Tree" "lossOf" "[I", Cond.methodLink RX2 57 yX2_rightBelow, Cond.instanceMethod yX2_rightBelow, Cond.selects RX2 yX2_rightBelow yX2_rightBelow, Cond.code yX2_rightBelow cX2_rightBelow 3 (some .int), Cond.methodLink RX2 88 yX3_cancel, Cond.instanceMethod yX3_cancel]
def wsX4_rootTotalWith_r3 : List Cond := [Cond.selects RX3 yX3_cancel yX3_cancel, Cond.code yX3_cancel cX3_cancel 4 none, Cond.methodLink RX3 32 yX3_order, Cond.instanceMethod yX3_order, Cond.selects RX3 yX3_order yX3_order, Cond.code yX3_order cX3_order 3 none, Cond.methodLink RX3 35 yX3_isAhead, Cond.instanceMethod yX3_isAhead, Cond.selects RX3 yX3_isAhead yX3_isAhead, Cond.code yX3_isAhead cX3_isAhead 3 (some .boolean), Cond.methodLink RX3 39 yX3_exchange, Cond.instanceMethod yX3_exchange, Cond.selects RX3 yX3_exchange yX3_exchange, Cond.code yX3_exchange cX3_exchange 5 none, Cond.methodLink RX2 64 yX2_isJoined, Cond.instanceMethod yX2_isJoined, Cond.selects RX2 yX2_isJoined yX2_isJoined, Cond.code yX2_isJoined cX2_isJoined 4 (some .boolean), Cond.fieldLink RX2 94 "MajorityIndex$Votes" "size" "I", Cond.fieldLink RX2 96 "MajorityIndex$Votes" "value" "[I", Cond.fieldLink RX2 97 "MajorityIndex$Votes" "number" "[I", Cond.methodLink RX2 68 yX2_keepJoined, Cond.instanceMethod yX2_keepJoined, Cond.selects RX2 yX2_keepJoined yX2_keepJoined]
def wsX4_rootTotalWith_r4 : List Cond := [Cond.code yX2_keepJoined cX2_keepJoined 4 none, Cond.methodLink RX2 98 Lib.Math.min.name, Cond.static Lib.Math.min.name, Cond.initialized "java/lang/Math", Cond.code Lib.Math.min.name Lib.Math.min.code 2 (some .int), Cond.fieldLink RX2 31 "MajorityIndex$Tree" "lessBy" "[I", Cond.fieldLink RX2 104 "MajorityIndex$Votes" "lessBy" "I", Cond.methodLink RX4 129 yX2_copyTo, Cond.instanceMethod yX2_copyTo, Cond.selects RX2 yX2_copyTo yX2_copyTo, Cond.code yX2_copyTo cX2_copyTo 3 none, Cond.methodLink RX4 176 yX3_total, Cond.instanceMethod yX3_total, Cond.selects RX3 yX3_total yX3_total, Cond.code yX3_total cX3_total 3 (some .int)]
def wsX4_rootTotalWith : List Cond := .code yX4_rootTotalWith cX4_rootTotalWith 6 (some .int) :: ((wsX4_rootTotalWith_r1 ++ (wsX4_rootTotalWith_r2 ++ (wsX4_rootTotalWith_r3 ++ wsX4_rootTotalWith_r4))) ++ wsX40 ++ wsX00 ++ wsX20 ++ wsX30)
def wsX4_swings_r1 : List Cond := [Cond.fieldLink RX4 12 "MajorityIndex" "row" "LMajorityIndex$Row;", Cond.methodLink RX4 79 yX0_hasRange, Cond.instanceMethod yX0_hasRange, Cond.selects RX0 yX0_hasRange yX0_hasRange, Cond.initialized RX0, Cond.code yX0_hasRange cX0_hasRange 3 (some .boolean), Cond.fieldLink RX0 15 "MajorityIndex$Row" "length" "I", Cond.methodLink RX4 68 yX4_isValue, Cond.static yX4_isValue, Cond.initialized RX4, Cond.code yX4_isValue cX4_isValue 1 (some .boolean), Cond.methodLink RX4 71 yX4_laidTree, Cond.instanceMethod yX4_laidTree, Cond.selects RX4 yX4_laidTree yX4_laidTree, Cond.code yX4_laidTree cX4_laidTree 1 (some (.object "MajorityIndex$Tree")), Cond.fieldLink RX4 53 "MajorityIndex" "treeIsOld" "Z", Cond.fieldLink RX4 21 "MajorityIndex" "tree" "LMajorityIndex$Tree;", Cond.fieldLink RX4 49 "MajorityIndex" "slotsNow" "I", Cond.fieldLink RX4 204 "MajorityIndex$Tree" "slotsHere" "I", Cond.fieldLink RX4 57 "MajorityIndex$Row" "length" "I", Cond.methodLink RX4 259 yX2_layRanges, Cond.instanceMethod yX2_layRanges, Cond.selects RX2 yX2_layRanges yX2_layRanges, Cond.initialized RX2]
def wsX4_swings_r2 : List Cond := [Cond.code yX2_layRanges cX2_layRanges 2 none, Cond.fieldLink RX2 40 "MajorityIndex$Tree" "row" "LMajorityIndex$Row;", Cond.fieldLink RX2 44 "MajorityIndex$Row" "length" "I", Cond.fieldLink RX2 50 "MajorityIndex$Tree" "nodes" "I", Cond.fieldLink RX2 18 "MajorityIndex$Tree" "from" "[I", Cond.fieldLink RX2 22 "MajorityIndex$Tree" "to" "[I", Cond.methodLink RX2 53 yX2_layBelow, Cond.instanceMethod yX2_layBelow, Cond.selects RX2 yX2_layBelow yX2_layBelow, Cond.code yX2_layBelow cX2_layBelow 4 none, Cond.methodLink RX2 57 yX2_rightBelow, Cond.instanceMethod yX2_rightBelow, Cond.selects RX2 yX2_rightBelow yX2_rightBelow, Cond.code yX2_rightBelow cX2_rightBelow 3 (some .int), Cond.methodLink RX4 87 yX2_renew, Cond.instanceMethod yX2_renew, Cond.selects RX2 yX2_renew yX2_renew, Cond.code yX2_renew cX2_renew 5 (some .int), Cond.methodLink RX2 61 yX2_putTogether, Cond.instanceMethod yX2_putTogether, Cond.selects RX2 yX2_putTogether yX2_putTogether, Cond.code yX2_putTogether cX2_putTogether 2 none, Cond.fieldLink RX2 12 "MajorityIndex$Tree" "joined" "LMajorityIndex$Votes;", Cond.fieldLink RX2 74 "MajorityIndex$Row" "cell" "[I"]
def wsX4_swings_r3 : List Cond := [Cond.fieldLink RX2 85 "MajorityIndex$Tree" "slotsHere" "I", Cond.methodLink RX2 71 yX3_clear, Cond.instanceMethod yX3_clear, Cond.selects RX3 yX3_clear yX3_clear, Cond.initialized RX3, Cond.code yX3_clear cX3_clear 1 none, Cond.fieldLink RX3 18 "MajorityIndex$Votes" "size" "I", Cond.fieldLink RX3 22 "MajorityIndex$Votes" "lost" "I", Cond.fieldLink RX3 25 "MajorityIndex$Votes" "lessBy" "I", Cond.methodLink RX2 77 yX3_add, Cond.instanceMethod yX3_add, Cond.selects RX3 yX3_add yX3_add, Cond.code yX3_add cX3_add 4 none, Cond.fieldLink RX3 9 "MajorityIndex$Votes" "value" "[I", Cond.fieldLink RX3 15 "MajorityIndex$Votes" "number" "[I", Cond.methodLink RX2 81 yX2_joinNode, Cond.instanceMethod yX2_joinNode, Cond.selects RX2 yX2_joinNode yX2_joinNode, Cond.code yX2_joinNode cX2_joinNode 5 none, Cond.fieldLink RX2 25 "MajorityIndex$Tree" "size" "[I", Cond.fieldLink RX2 34 "MajorityIndex$Tree" "value" "[I", Cond.fieldLink RX2 37 "MajorityIndex$Tree" "number" "[I", Cond.fieldLink RX2 91 "MajorityIndex$Votes" "lost" "I", Cond.fieldLink RX2 28 "MajorityIndex$Tree" "lossOf" "[I"]
def wsX4_swings_r4 : List Cond := [Cond.methodLink RX2 88 yX3_cancel, Cond.instanceMethod yX3_cancel, Cond.selects RX3 yX3_cancel yX3_cancel, Cond.code yX3_cancel cX3_cancel 4 none, Cond.methodLink RX3 32 yX3_order, Cond.instanceMethod yX3_order, Cond.selects RX3 yX3_order yX3_order, Cond.code yX3_order cX3_order 3 none, Cond.methodLink RX3 35 yX3_isAhead, Cond.instanceMethod yX3_isAhead, Cond.selects RX3 yX3_isAhead yX3_isAhead, Cond.code yX3_isAhead cX3_isAhead 3 (some .boolean), Cond.methodLink RX3 39 yX3_exchange, Cond.instanceMethod yX3_exchange, Cond.selects RX3 yX3_exchange yX3_exchange, Cond.code yX3_exchange cX3_exchange 5 none, Cond.methodLink RX2 64 yX2_isJoined, Cond.instanceMethod yX2_isJoined, Cond.selects RX2 yX2_isJoined yX2_isJoined, Cond.code yX2_isJoined cX2_isJoined 4 (some .boolean), Cond.fieldLink RX2 94 "MajorityIndex$Votes" "size" "I", Cond.fieldLink RX2 96 "MajorityIndex$Votes" "value" "[I", Cond.fieldLink RX2 97 "MajorityIndex$Votes" "number" "[I", Cond.methodLink RX2 68 yX2_keepJoined]
def wsX4_swings_r5 : List Cond := [Cond.instanceMethod yX2_keepJoined, Cond.selects RX2 yX2_keepJoined yX2_keepJoined, Cond.code yX2_keepJoined cX2_keepJoined 4 none, Cond.methodLink RX2 98 Lib.Math.min.name, Cond.static Lib.Math.min.name, Cond.initialized "java/lang/Math", Cond.code Lib.Math.min.name Lib.Math.min.code 2 (some .int), Cond.fieldLink RX2 31 "MajorityIndex$Tree" "lessBy" "[I", Cond.fieldLink RX2 104 "MajorityIndex$Votes" "lessBy" "I", Cond.methodLink RX4 246 yX4_rootTotalWith, Cond.instanceMethod yX4_rootTotalWith, Cond.selects RX4 yX4_rootTotalWith yX4_rootTotalWith, Cond.code yX4_rootTotalWith cX4_rootTotalWith 6 (some .int), Cond.fieldLink RX4 110 "MajorityIndex$Row" "cell" "[I", Cond.fieldLink RX4 35 "MajorityIndex" "votes" "LMajorityIndex$Votes;", Cond.methodLink RX4 129 yX2_copyTo, Cond.instanceMethod yX2_copyTo, Cond.selects RX2 yX2_copyTo yX2_copyTo, Cond.code yX2_copyTo cX2_copyTo 3 none, Cond.methodLink RX4 176 yX3_total, Cond.instanceMethod yX3_total, Cond.selects RX3 yX3_total yX3_total, Cond.code yX3_total cX3_total 3 (some .int)]
def wsX4_swings : List Cond := .code yX4_swings cX4_swings 10 (some .int) :: ((wsX4_swings_r1 ++ (wsX4_swings_r2 ++ (wsX4_swings_r3 ++ (wsX4_swings_r4 ++ wsX4_swings_r5)))) ++ wsX40 ++ wsX00 ++ wsX20 ++ wsX30)
def wsX4_told_r1 : List Cond := [Cond.fieldLink RX4 12 "MajorityIndex" "row" "LMajorityIndex$Row;", Cond.fieldLink RX4 57 "MajorityIndex$Row" "length" "I", Cond.fieldLink RX4 49 "MajorityIndex" "slotsNow" "I", Cond.fieldLink RX4 163 "MajorityIndex$Tree" "nodes" "I", Cond.fieldLink RX4 139 "MajorityIndex$Tree" "lossOf" "[I", Cond.methodLink RX4 71 yX4_laidTree, Cond.instanceMethod yX4_laidTree, Cond.selects RX4 yX4_laidTree yX4_laidTree, Cond.initialized RX4, Cond.code yX4_laidTree cX4_laidTree 1 (some (.object "MajorityIndex$Tree")), Cond.fieldLink RX4 53 "MajorityIndex" "treeIsOld" "Z", Cond.fieldLink RX4 21 "MajorityIndex" "tree" "LMajorityIndex$Tree;", Cond.fieldLink RX4 204 "MajorityIndex$Tree" "slotsHere" "I", Cond.methodLink RX4 259 yX2_layRanges, Cond.instanceMethod yX2_layRanges, Cond.selects RX2 yX2_layRanges yX2_layRanges, Cond.initialized RX2, Cond.code yX2_layRanges cX2_layRanges 2 none, Cond.fieldLink RX2 40 "MajorityIndex$Tree" "row" "LMajorityIndex$Row;", Cond.fieldLink RX2 44 "MajorityIndex$Row" "length" "I", Cond.fieldLink RX2 50 "MajorityIndex$Tree" "nodes" "I", Cond.fieldLink RX2 18 "MajorityIndex$Tree" "from" "[I", Cond.fieldLink RX2 22 "MajorityIndex$Tree" "to" "[I", Cond.methodLink RX2 53 yX2_layBelow]
def wsX4_told_r2 : List Cond := [Cond.instanceMethod yX2_layBelow, Cond.selects RX2 yX2_layBelow yX2_layBelow, Cond.code yX2_layBelow cX2_layBelow 4 none, Cond.methodLink RX2 57 yX2_rightBelow, Cond.instanceMethod yX2_rightBelow, Cond.selects RX2 yX2_rightBelow yX2_rightBelow, Cond.code yX2_rightBelow cX2_rightBelow 3 (some .int), Cond.methodLink RX4 87 yX2_renew, Cond.instanceMethod yX2_renew, Cond.selects RX2 yX2_renew yX2_renew, Cond.code yX2_renew cX2_renew 5 (some .int), Cond.methodLink RX2 61 yX2_putTogether, Cond.instanceMethod yX2_putTogether, Cond.selects RX2 yX2_putTogether yX2_putTogether, Cond.code yX2_putTogether cX2_putTogether 2 none, Cond.fieldLink RX2 12 "MajorityIndex$Tree" "joined" "LMajorityIndex$Votes;", Cond.fieldLink RX2 74 "MajorityIndex$Row" "cell" "[I", Cond.fieldLink RX2 85 "MajorityIndex$Tree" "slotsHere" "I", Cond.methodLink RX2 71 yX3_clear, Cond.instanceMethod yX3_clear, Cond.selects RX3 yX3_clear yX3_clear, Cond.initialized RX3, Cond.code yX3_clear cX3_clear 1 none, Cond.fieldLink RX3 18 "MajorityIndex$Votes" "size" "I"]
def wsX4_told_r3 : List Cond := [Cond.fieldLink RX3 22 "MajorityIndex$Votes" "lost" "I", Cond.fieldLink RX3 25 "MajorityIndex$Votes" "lessBy" "I", Cond.methodLink RX2 77 yX3_add, Cond.instanceMethod yX3_add, Cond.selects RX3 yX3_add yX3_add, Cond.code yX3_add cX3_add 4 none, Cond.fieldLink RX3 9 "MajorityIndex$Votes" "value" "[I", Cond.fieldLink RX3 15 "MajorityIndex$Votes" "number" "[I", Cond.methodLink RX2 81 yX2_joinNode, Cond.instanceMethod yX2_joinNode, Cond.selects RX2 yX2_joinNode yX2_joinNode, Cond.code yX2_joinNode cX2_joinNode 5 none, Cond.fieldLink RX2 25 "MajorityIndex$Tree" "size" "[I", Cond.fieldLink RX2 34 "MajorityIndex$Tree" "value" "[I", Cond.fieldLink RX2 37 "MajorityIndex$Tree" "number" "[I", Cond.fieldLink RX2 91 "MajorityIndex$Votes" "lost" "I", Cond.fieldLink RX2 28 "MajorityIndex$Tree" "lossOf" "[I", Cond.methodLink RX2 88 yX3_cancel, Cond.instanceMethod yX3_cancel, Cond.selects RX3 yX3_cancel yX3_cancel, Cond.code yX3_cancel cX3_cancel 4 none, Cond.methodLink RX3 32 yX3_order, Cond.instanceMethod yX3_order, Cond.selects RX3 yX3_order yX3_order]
def wsX4_told_r4 : List Cond := [Cond.code yX3_order cX3_order 3 none, Cond.methodLink RX3 35 yX3_isAhead, Cond.instanceMethod yX3_isAhead, Cond.selects RX3 yX3_isAhead yX3_isAhead, Cond.code yX3_isAhead cX3_isAhead 3 (some .boolean), Cond.methodLink RX3 39 yX3_exchange, Cond.instanceMethod yX3_exchange, Cond.selects RX3 yX3_exchange yX3_exchange, Cond.code yX3_exchange cX3_exchange 5 none, Cond.methodLink RX2 64 yX2_isJoined, Cond.instanceMethod yX2_isJoined, Cond.selects RX2 yX2_isJoined yX2_isJoined, Cond.code yX2_isJoined cX2_isJoined 4 (some .boolean), Cond.fieldLink RX2 94 "MajorityIndex$Votes" "size" "I", Cond.fieldLink RX2 96 "MajorityIndex$Votes" "value" "[I", Cond.fieldLink RX2 97 "MajorityIndex$Votes" "number" "[I", Cond.methodLink RX2 68 yX2_keepJoined, Cond.instanceMethod yX2_keepJoined, Cond.selects RX2 yX2_keepJoined yX2_keepJoined, Cond.code yX2_keepJoined cX2_keepJoined 4 none, Cond.methodLink RX2 98 Lib.Math.min.name, Cond.static Lib.Math.min.name, Cond.initialized "java/lang/Math", Cond.code Lib.Math.min.name Lib.Math.min.code 2 (some .int)]
def wsX4_told_r5 : List Cond := [Cond.fieldLink RX2 31 "MajorityIndex$Tree" "lessBy" "[I", Cond.fieldLink RX2 104 "MajorityIndex$Votes" "lessBy" "I", Cond.methodLink RX4 250 yX2_nodesWithMajority, Cond.instanceMethod yX2_nodesWithMajority, Cond.selects RX2 yX2_nodesWithMajority yX2_nodesWithMajority, Cond.code yX2_nodesWithMajority cX2_nodesWithMajority 3 (some .int), Cond.constant RX2 120 (-40000), Cond.methodLink RX2 117 yX0_leader, Cond.instanceMethod yX0_leader, Cond.selects RX0 yX0_leader yX0_leader, Cond.initialized RX0, Cond.code yX0_leader cX0_leader 6 (some .int), Cond.constant RX0 23 (-40000), Cond.fieldLink RX0 9 "MajorityIndex$Row" "cell" "[I", Cond.methodLink RX0 24 yX0_oftenIn, Cond.instanceMethod yX0_oftenIn, Cond.selects RX0 yX0_oftenIn yX0_oftenIn, Cond.code yX0_oftenIn cX0_oftenIn 6 (some .int), Cond.static yX4_isHeavy, Cond.code yX4_isHeavy cX4_isHeavy 4 (some .boolean), Cond.methodLink RX4 253 yX2_deepest, Cond.instanceMethod yX2_deepest, Cond.selects RX2 yX2_deepest yX2_deepest, Cond.code yX2_deepest cX2_deepest 3 (some .int)]
def wsX4_told_r6 : List Cond := [Cond.methodLink RX4 256 yX2_allLosses, Cond.instanceMethod yX2_allLosses, Cond.selects RX2 yX2_allLosses yX2_allLosses, Cond.code yX2_allLosses cX2_allLosses 3 (some .int)]
def wsX4_told : List Cond := .code yX4_told cX4_told 2 (some .int) :: ((wsX4_told_r1 ++ (wsX4_told_r2 ++ (wsX4_told_r3 ++ (wsX4_told_r4 ++ (wsX4_told_r5 ++ wsX4_told_r6))))) ++ wsX40 ++ wsX00 ++ wsX20 ++ wsX30)
set_option maxRecDepth 20000 in
theorem ggX4_set_X0_hasPlace : GoodIn wsX4_set wsX0_hasPlace := goodIn_r _ [6, 7, 120, 121] rfl (by decide +kernel)
set_option maxRecDepth 20000 in
theorem gX4_set_X0_hasPlace : GoodIn wsX4_set (wsV RX4 64 RX0 yX0_hasPlace wsX0_hasPlace) := goodIn_app (goodIn_r _ [2, 3, 4, 5] rfl (by decide +kernel)) ggX4_set_X0_hasPlace
set_option maxRecDepth 20000 in
theorem ggX4_set_X4_isValue : GoodIn wsX4_set wsX4_isValue := goodIn_r _ [11] rfl (by decide +kernel)
set_option maxRecDepth 20000 in
theorem gX4_set_X4_isValue : GoodIn wsX4_set (va_wsS RX4 68 yX4_isValue wsX4_isValue) := goodIn_app (goodIn_r _ [8, 9, 10] rfl (by decide +kernel)) ggX4_set_X4_isValue
set_option maxRecDepth 20000 in
theorem ggX4_set_X4_laidTree : GoodIn wsX4_set wsX4_laidTree := goodIn_r _ [15, 16, 17, 18, 19, 1, 20, 21, 22, 23, 24, 25, 26, 27, 28, 29, 30, 31, 32, 33, 34, 35, 36, 37, 38, 39, 40, 41, 42, 43, 44, 45, 46, 47, 48, 49, 50, 51, 52, 53, 54, 55, 56, 57, 58, 59, 60, 61, 62, 63, 64, 65, 66, 67, 68, 69, 70, 71, 72, 73, 74, 75, 76, 77, 78, 79, 80, 81, 82, 83, 84, 85, 86, 87, 88, 89, 90, 91, 92, 93, 94, 95, 96, 97, 98, 99, 100, 101, 102, 103, 104, 105, 111, 112, 113, 114, 115, 116, 117, 118, 119, 122, 123, 124, 125, 126, 127, 128, 129, 130, 131, 132, 120, 121, 133, 134, 135, 136, 137] rfl (by decide +kernel)
set_option maxRecDepth 20000 in
theorem gX4_set_X4_laidTree : GoodIn wsX4_set (wsV RX4 71 RX4 yX4_laidTree wsX4_laidTree) := goodIn_app (goodIn_r _ [12, 13, 14, 10] rfl (by decide +kernel)) ggX4_set_X4_laidTree
set_option maxRecDepth 20000 in
theorem ggX4_set_X4_overwrite : GoodIn wsX4_set wsX4_overwrite := goodIn_r _ [109, 1, 110, 39, 40, 41, 24, 42, 28, 29, 30, 43, 44, 45, 46, 47, 26, 48, 49, 50, 51, 52, 53, 54, 55, 56, 57, 58, 59, 60, 61, 62, 63, 64, 65, 66, 67, 68, 69, 70, 71, 72, 35, 36, 37, 38, 73, 74, 75, 76, 77, 78, 79, 80, 81, 82, 83, 84, 85, 86, 87, 88, 89, 90, 91, 92, 93, 94, 95, 96, 97, 98, 99, 100, 101, 102, 103, 104, 105, 111, 112, 113, 114, 115, 116, 117, 118, 119, 120, 121, 122, 123, 124, 125, 126, 127, 128, 129, 130, 131, 132, 133, 134, 135, 136, 137] rfl (by decide +kernel)
set_option maxRecDepth 20000 in
theorem gX4_set_X4_overwrite : GoodIn wsX4_set (wsV RX4 75 RX4 yX4_overwrite wsX4_overwrite) := goodIn_app (goodIn_r _ [106, 107, 108, 10] rfl (by decide +kernel)) ggX4_set_X4_overwrite
def dt_cX4_set_0 : List (Nat × Instr × Nat) := [(0, .aload_n 0, 1), (1, .getfield 12, 3), (4, .iload_n 1, 1), (5, .invokevirtual 64, 3), (8, .ifCond .eq 10, 3), (11, .iload_n 2, 1), (12, .invokestatic 68, 3), (15, .ifCond .ne 5, 3), (18, .iconst (-1), 1), (19, .ireturn, 1), (20, .aload_n 0, 1), (21, .aload_n 0, 1), (22, .invokevirtual 71, 3), (25, .iload_n 1, 1), (26, .iload_n 1, 1), (27, .iconst 1, 1), (28, .iadd, 1), (29, .iload_n 2, 1), (30, .invokevirtual 75, 3), (33, .ireturn, 1)]
theorem da_cX4_set_0 : dk_all cX4_set dt_cX4_set_0 = true := by decide +kernel
theorem dX4_set_0 : decode cX4_set 0 = .ok (.aload_n 0, 1) := dk_get _ da_cX4_set_0 0 _ _ _ rfl
theorem dX4_set_1 : decode cX4_set 1 = .ok (.getfield 12, 3) := dk_get _ da_cX4_set_0 1 _ _ _ rfl
theorem dX4_set_4 : decode cX4_set 4 = .ok (.iload_n 1, 1) := dk_get _ da_cX4_set_0 2 _ _ _ rfl
theorem dX4_set_5 : decode cX4_set 5 = .ok (.invokevirtual 64, 3) := dk_get _ da_cX4_set_0 3 _ _ _ rfl
theorem dX4_set_8 : decode cX4_set 8 = .ok (.ifCond .eq 10, 3) := dk_get _ da_cX4_set_0 4 _ _ _ rfl
theorem dX4_set_11 : decode cX4_set 11 = .ok (.iload_n 2, 1) := dk_get _ da_cX4_set_0 5 _ _ _ rfl
theorem dX4_set_12 : decode cX4_set 12 = .ok (.invokestatic 68, 3) := dk_get _ da_cX4_set_0 6 _ _ _ rfl
theorem dX4_set_15 : decode cX4_set 15 = .ok (.ifCond .ne 5, 3) := dk_get _ da_cX4_set_0 7 _ _ _ rfl
theorem dX4_set_18 : decode cX4_set 18 = .ok (.iconst (-1), 1) := dk_get _ da_cX4_set_0 8 _ _ _ rfl
theorem dX4_set_19 : decode cX4_set 19 = .ok (.ireturn, 1) := dk_get _ da_cX4_set_0 9 _ _ _ rfl
theorem dX4_set_20 : decode cX4_set 20 = .ok (.aload_n 0, 1) := dk_get _ da_cX4_set_0 10 _ _ _ rfl
theorem dX4_set_21 : decode cX4_set 21 = .ok (.aload_n 0, 1) := dk_get _ da_cX4_set_0 11 _ _ _ rfl
theorem dX4_set_22 : decode cX4_set 22 = .ok (.invokevirtual 71, 3) := dk_get _ da_cX4_set_0 12 _ _ _ rfl
theorem dX4_set_25 : decode cX4_set 25 = .ok (.iload_n 1, 1) := dk_get _ da_cX4_set_0 13 _ _ _ rfl
theorem dX4_set_26 : decode cX4_set 26 = .ok (.iload_n 1, 1) := dk_get _ da_cX4_set_0 14 _ _ _ rfl
theorem dX4_set_27 : decode cX4_set 27 = .ok (.iconst 1, 1) := dk_get _ da_cX4_set_0 15 _ _ _ rfl
theorem dX4_set_28 : decode cX4_set 28 = .ok (.iadd, 1) := dk_get _ da_cX4_set_0 16 _ _ _ rfl
theorem dX4_set_29 : decode cX4_set 29 = .ok (.iload_n 2, 1) := dk_get _ da_cX4_set_0 17 _ _ _ rfl
theorem dX4_set_30 : decode cX4_set 30 = .ok (.invokevirtual 75, 3) := dk_get _ da_cX4_set_0 18 _ _ _ rfl
theorem dX4_set_33 : decode cX4_set 33 = .ok (.ireturn, 1) := dk_get _ da_cX4_set_0 19 _ _ _ rfl
set_option maxRecDepth 20000 in
theorem ggX4_fill_X0_hasRange : GoodIn wsX4_fill wsX0_hasRange := goodIn_r _ [6, 7, 120, 121] rfl (by decide +kernel)
set_option maxRecDepth 20000 in
theorem gX4_fill_X0_hasRange : GoodIn wsX4_fill (wsV RX4 79 RX0 yX0_hasRange wsX0_hasRange) := goodIn_app (goodIn_r _ [2, 3, 4, 5] rfl (by decide +kernel)) ggX4_fill_X0_hasRange
set_option maxRecDepth 20000 in
theorem ggX4_fill_X4_isValue : GoodIn wsX4_fill wsX4_isValue := goodIn_r _ [11] rfl (by decide +kernel)
set_option maxRecDepth 20000 in
theorem gX4_fill_X4_isValue : GoodIn wsX4_fill (va_wsS RX4 68 yX4_isValue wsX4_isValue) := goodIn_app (goodIn_r _ [8, 9, 10] rfl (by decide +kernel)) ggX4_fill_X4_isValue
set_option maxRecDepth 20000 in
theorem ggX4_fill_X4_laidTree : GoodIn wsX4_fill wsX4_laidTree := goodIn_r _ [15, 16, 17, 18, 19, 1, 20, 21, 22, 23, 24, 25, 26, 27, 28, 29, 30, 31, 32, 33, 34, 35, 36, 37, 38, 39, 40, 41, 42, 43, 44, 45, 46, 47, 48, 49, 50, 51, 52, 53, 54, 55, 56, 57, 58, 59, 60, 61, 62, 63, 64, 65, 66, 67, 68, 69, 70, 71, 72, 73, 74, 75, 76, 77, 78, 79, 80, 81, 82, 83, 84, 85, 86, 87, 88, 89, 90, 91, 92, 93, 94, 95, 96, 97, 98, 99, 100, 101, 102, 103, 104, 105, 111, 112, 113, 114, 115, 116, 117, 118, 119, 122, 123, 124, 125, 126, 127, 128, 129, 130, 131, 132, 120, 121, 133, 134, 135, 136, 137] rfl (by decide +kernel)
set_option maxRecDepth 20000 in
theorem gX4_fill_X4_laidTree : GoodIn wsX4_fill (wsV RX4 71 RX4 yX4_laidTree wsX4_laidTree) := goodIn_app (goodIn_r _ [12, 13, 14, 10] rfl (by decide +kernel)) ggX4_fill_X4_laidTree
set_option maxRecDepth 20000 in
theorem ggX4_fill_X4_overwrite : GoodIn wsX4_fill wsX4_overwrite := goodIn_r _ [109, 1, 110, 39, 40, 41, 24, 42, 28, 29, 30, 43, 44, 45, 46, 47, 26, 48, 49, 50, 51, 52, 53, 54, 55, 56, 57, 58, 59, 60, 61, 62, 63, 64, 65, 66, 67, 68, 69, 70, 71, 72, 35, 36, 37, 38, 73, 74, 75, 76, 77, 78, 79, 80, 81, 82, 83, 84, 85, 86, 87, 88, 89, 90, 91, 92, 93, 94, 95, 96, 97, 98, 99, 100, 101, 102, 103, 104, 105, 111, 112, 113, 114, 115, 116, 117, 118, 119, 120, 121, 122, 123, 124, 125, 126, 127, 128, 129, 130, 131, 132, 133, 134, 135, 136, 137] rfl (by decide +kernel)
set_option maxRecDepth 20000 in
theorem gX4_fill_X4_overwrite : GoodIn wsX4_fill (wsV RX4 75 RX4 yX4_overwrite wsX4_overwrite) := goodIn_app (goodIn_r _ [106, 107, 108, 10] rfl (by decide +kernel)) ggX4_fill_X4_overwrite
def dt_cX4_fill_0 : List (Nat × Instr × Nat) := [(0, .aload_n 0, 1), (1, .getfield 12, 3), (4, .iload_n 1, 1), (5, .iload_n 2, 1), (6, .invokevirtual 79, 3), (9, .ifCond .eq 10, 3), (12, .iload_n 3, 1), (13, .invokestatic 68, 3), (16, .ifCond .ne 5, 3), (19, .iconst (-1), 1), (20, .ireturn, 1), (21, .aload_n 0, 1), (22, .aload_n 0, 1), (23, .invokevirtual 71, 3), (26, .iload_n 1, 1), (27, .iload_n 2, 1), (28, .iload_n 3, 1), (29, .invokevirtual 75, 3), (32, .ireturn, 1)]
theorem da_cX4_fill_0 : dk_all cX4_fill dt_cX4_fill_0 = true := by decide +kernel
theorem dX4_fill_0 : decode cX4_fill 0 = .ok (.aload_n 0, 1) := dk_get _ da_cX4_fill_0 0 _ _ _ rfl
theorem dX4_fill_1 : decode cX4_fill 1 = .ok (.getfield 12, 3) := dk_get _ da_cX4_fill_0 1 _ _ _ rfl
theorem dX4_fill_4 : decode cX4_fill 4 = .ok (.iload_n 1, 1) := dk_get _ da_cX4_fill_0 2 _ _ _ rfl
theorem dX4_fill_5 : decode cX4_fill 5 = .ok (.iload_n 2, 1) := dk_get _ da_cX4_fill_0 3 _ _ _ rfl
theorem dX4_fill_6 : decode cX4_fill 6 = .ok (.invokevirtual 79, 3) := dk_get _ da_cX4_fill_0 4 _ _ _ rfl
theorem dX4_fill_9 : decode cX4_fill 9 = .ok (.ifCond .eq 10, 3) := dk_get _ da_cX4_fill_0 5 _ _ _ rfl
theorem dX4_fill_12 : decode cX4_fill 12 = .ok (.iload_n 3, 1) := dk_get _ da_cX4_fill_0 6 _ _ _ rfl
theorem dX4_fill_13 : decode cX4_fill 13 = .ok (.invokestatic 68, 3) := dk_get _ da_cX4_fill_0 7 _ _ _ rfl
theorem dX4_fill_16 : decode cX4_fill 16 = .ok (.ifCond .ne 5, 3) := dk_get _ da_cX4_fill_0 8 _ _ _ rfl
theorem dX4_fill_19 : decode cX4_fill 19 = .ok (.iconst (-1), 1) := dk_get _ da_cX4_fill_0 9 _ _ _ rfl
theorem dX4_fill_20 : decode cX4_fill 20 = .ok (.ireturn, 1) := dk_get _ da_cX4_fill_0 10 _ _ _ rfl
theorem dX4_fill_21 : decode cX4_fill 21 = .ok (.aload_n 0, 1) := dk_get _ da_cX4_fill_0 11 _ _ _ rfl
theorem dX4_fill_22 : decode cX4_fill 22 = .ok (.aload_n 0, 1) := dk_get _ da_cX4_fill_0 12 _ _ _ rfl
theorem dX4_fill_23 : decode cX4_fill 23 = .ok (.invokevirtual 71, 3) := dk_get _ da_cX4_fill_0 13 _ _ _ rfl
theorem dX4_fill_26 : decode cX4_fill 26 = .ok (.iload_n 1, 1) := dk_get _ da_cX4_fill_0 14 _ _ _ rfl
theorem dX4_fill_27 : decode cX4_fill 27 = .ok (.iload_n 2, 1) := dk_get _ da_cX4_fill_0 15 _ _ _ rfl
theorem dX4_fill_28 : decode cX4_fill 28 = .ok (.iload_n 3, 1) := dk_get _ da_cX4_fill_0 16 _ _ _ rfl
theorem dX4_fill_29 : decode cX4_fill 29 = .ok (.invokevirtual 75, 3) := dk_get _ da_cX4_fill_0 17 _ _ _ rfl
theorem dX4_fill_32 : decode cX4_fill 32 = .ok (.ireturn, 1) := dk_get _ da_cX4_fill_0 18 _ _ _ rfl
set_option maxRecDepth 20000 in
theorem ggX4_turn_X0_hasRange : GoodIn wsX4_turn wsX0_hasRange := goodIn_r _ [6, 7, 117, 118] rfl (by decide +kernel)
set_option maxRecDepth 20000 in
theorem gX4_turn_X0_hasRange : GoodIn wsX4_turn (wsV RX4 79 RX0 yX0_hasRange wsX0_hasRange) := goodIn_app (goodIn_r _ [2, 3, 4, 5] rfl (by decide +kernel)) ggX4_turn_X0_hasRange
set_option maxRecDepth 20000 in
theorem ggX4_turn_X4_laidTree : GoodIn wsX4_turn wsX4_laidTree := goodIn_r _ [12, 13, 14, 15, 16, 1, 17, 18, 19, 20, 21, 22, 23, 24, 25, 26, 27, 28, 29, 30, 31, 32, 33, 34, 35, 36, 37, 38, 39, 40, 41, 42, 43, 44, 45, 46, 47, 48, 49, 50, 51, 52, 53, 54, 55, 56, 57, 58, 59, 60, 61, 62, 63, 64, 65, 66, 67, 68, 69, 70, 71, 72, 73, 74, 75, 76, 77, 78, 79, 80, 81, 82, 83, 84, 85, 86, 87, 88, 89, 90, 91, 92, 93, 94, 95, 96, 97, 98, 99, 100, 101, 102, 108, 109, 110, 111, 112, 113, 114, 115, 116, 119, 120, 121, 122, 123, 124, 125, 126, 127, 128, 129, 117, 118, 130, 131, 132, 133, 134] rfl (by decide +kernel)
set_option maxRecDepth 20000 in
theorem gX4_turn_X4_laidTree : GoodIn wsX4_turn (wsV RX4 71 RX4 yX4_laidTree wsX4_laidTree) := goodIn_app (goodIn_r _ [8, 9, 10, 11] rfl (by decide +kernel)) ggX4_turn_X4_laidTree
set_option maxRecDepth 20000 in
theorem ggX4_turn_X0_exchange : GoodIn wsX4_turn wsX0_exchange := goodIn_r _ [106, 107, 117, 118] rfl (by decide +kernel)
set_option maxRecDepth 20000 in
theorem gX4_turn_X0_exchange : GoodIn wsX4_turn (wsV RX4 83 RX0 yX0_exchange wsX0_exchange) := goodIn_app (goodIn_r _ [103, 104, 105, 5] rfl (by decide +kernel)) ggX4_turn_X0_exchange
set_option maxRecDepth 20000 in
theorem ggX4_turn_X2_renew : GoodIn wsX4_turn wsX2_renew := goodIn_r _ [39, 25, 26, 27, 40, 41, 42, 21, 43, 44, 23, 45, 46, 47, 48, 49, 50, 51, 52, 53, 54, 55, 56, 57, 58, 59, 60, 61, 62, 63, 64, 65, 66, 67, 68, 69, 32, 33, 34, 35, 70, 71, 72, 73, 74, 75, 76, 77, 78, 79, 80, 81, 82, 83, 84, 85, 86, 87, 88, 89, 90, 91, 92, 93, 94, 95, 96, 97, 98, 99, 100, 101, 102, 119, 120, 121, 122, 123, 124, 125, 126, 127, 128, 129, 117, 118, 130, 131, 132, 133, 134] rfl (by decide +kernel)
set_option maxRecDepth 20000 in
theorem gX4_turn_X2_renew : GoodIn wsX4_turn (wsV RX4 87 RX2 yX2_renew wsX2_renew) := goodIn_app (goodIn_r _ [36, 37, 38, 21] rfl (by decide +kernel)) ggX4_turn_X2_renew
def dt_cX4_turn_0 : List (Nat × Instr × Nat) := [(0, .aload_n 0, 1), (1, .getfield 12, 3), (4, .iload_n 1, 1), (5, .iload_n 2, 1), (6, .invokevirtual 79, 3), (9, .ifCond .ne 5, 3), (12, .iconst (-1), 1), (13, .ireturn, 1), (14, .aload_n 0, 1), (15, .invokevirtual 71, 3), (18, .astore_n 3, 1), (19, .iload_n 1, 1), (20, .istore 4, 2), (22, .iload_n 2, 1), (23, .iconst 1, 1), (24, .isub, 1), (25, .istore 5, 2), (27, .iload 4, 2), (29, .iload 5, 2), (31, .if_icmp .ge 23, 3), (34, .aload_n 0, 1), (35, .getfield 12, 3), (38, .iload 4, 2), (40, .iload 5, 2), (42, .invokevirtual 83, 3), (45, .iinc 4 1, 3), (48, .iinc 5 (-1), 3), (51, .goto (-24), 3), (54, .aload_n 3, 1), (55, .iload_n 1, 1), (56, .iload_n 2, 1), (57, .invokevirtual 87, 3), (60, .ireturn, 1)]
theorem da_cX4_turn_0 : dk_all cX4_turn dt_cX4_turn_0 = true := by decide +kernel
theorem dX4_turn_0 : decode cX4_turn 0 = .ok (.aload_n 0, 1) := dk_get _ da_cX4_turn_0 0 _ _ _ rfl
theorem dX4_turn_1 : decode cX4_turn 1 = .ok (.getfield 12, 3) := dk_get _ da_cX4_turn_0 1 _ _ _ rfl
theorem dX4_turn_4 : decode cX4_turn 4 = .ok (.iload_n 1, 1) := dk_get _ da_cX4_turn_0 2 _ _ _ rfl
theorem dX4_turn_5 : decode cX4_turn 5 = .ok (.iload_n 2, 1) := dk_get _ da_cX4_turn_0 3 _ _ _ rfl
theorem dX4_turn_6 : decode cX4_turn 6 = .ok (.invokevirtual 79, 3) := dk_get _ da_cX4_turn_0 4 _ _ _ rfl
theorem dX4_turn_9 : decode cX4_turn 9 = .ok (.ifCond .ne 5, 3) := dk_get _ da_cX4_turn_0 5 _ _ _ rfl
theorem dX4_turn_12 : decode cX4_turn 12 = .ok (.iconst (-1), 1) := dk_get _ da_cX4_turn_0 6 _ _ _ rfl
theorem dX4_turn_13 : decode cX4_turn 13 = .ok (.ireturn, 1) := dk_get _ da_cX4_turn_0 7 _ _ _ rfl
theorem dX4_turn_14 : decode cX4_turn 14 = .ok (.aload_n 0, 1) := dk_get _ da_cX4_turn_0 8 _ _ _ rfl
theorem dX4_turn_15 : decode cX4_turn 15 = .ok (.invokevirtual 71, 3) := dk_get _ da_cX4_turn_0 9 _ _ _ rfl
theorem dX4_turn_18 : decode cX4_turn 18 = .ok (.astore_n 3, 1) := dk_get _ da_cX4_turn_0 10 _ _ _ rfl
theorem dX4_turn_19 : decode cX4_turn 19 = .ok (.iload_n 1, 1) := dk_get _ da_cX4_turn_0 11 _ _ _ rfl
theorem dX4_turn_20 : decode cX4_turn 20 = .ok (.istore 4, 2) := dk_get _ da_cX4_turn_0 12 _ _ _ rfl
theorem dX4_turn_22 : decode cX4_turn 22 = .ok (.iload_n 2, 1) := dk_get _ da_cX4_turn_0 13 _ _ _ rfl
theorem dX4_turn_23 : decode cX4_turn 23 = .ok (.iconst 1, 1) := dk_get _ da_cX4_turn_0 14 _ _ _ rfl
theorem dX4_turn_24 : decode cX4_turn 24 = .ok (.isub, 1) := dk_get _ da_cX4_turn_0 15 _ _ _ rfl
theorem dX4_turn_25 : decode cX4_turn 25 = .ok (.istore 5, 2) := dk_get _ da_cX4_turn_0 16 _ _ _ rfl
theorem dX4_turn_27 : decode cX4_turn 27 = .ok (.iload 4, 2) := dk_get _ da_cX4_turn_0 17 _ _ _ rfl
theorem dX4_turn_29 : decode cX4_turn 29 = .ok (.iload 5, 2) := dk_get _ da_cX4_turn_0 18 _ _ _ rfl
theorem dX4_turn_31 : decode cX4_turn 31 = .ok (.if_icmp .ge 23, 3) := dk_get _ da_cX4_turn_0 19 _ _ _ rfl
theorem dX4_turn_34 : decode cX4_turn 34 = .ok (.aload_n 0, 1) := dk_get _ da_cX4_turn_0 20 _ _ _ rfl
theorem dX4_turn_35 : decode cX4_turn 35 = .ok (.getfield 12, 3) := dk_get _ da_cX4_turn_0 21 _ _ _ rfl
theorem dX4_turn_38 : decode cX4_turn 38 = .ok (.iload 4, 2) := dk_get _ da_cX4_turn_0 22 _ _ _ rfl
theorem dX4_turn_40 : decode cX4_turn 40 = .ok (.iload 5, 2) := dk_get _ da_cX4_turn_0 23 _ _ _ rfl
theorem dX4_turn_42 : decode cX4_turn 42 = .ok (.invokevirtual 83, 3) := dk_get _ da_cX4_turn_0 24 _ _ _ rfl
theorem dX4_turn_45 : decode cX4_turn 45 = .ok (.iinc 4 1, 3) := dk_get _ da_cX4_turn_0 25 _ _ _ rfl
theorem dX4_turn_48 : decode cX4_turn 48 = .ok (.iinc 5 (-1), 3) := dk_get _ da_cX4_turn_0 26 _ _ _ rfl
theorem dX4_turn_51 : decode cX4_turn 51 = .ok (.goto (-24), 3) := dk_get _ da_cX4_turn_0 27 _ _ _ rfl
theorem dX4_turn_54 : decode cX4_turn 54 = .ok (.aload_n 3, 1) := dk_get _ da_cX4_turn_0 28 _ _ _ rfl
theorem dX4_turn_55 : decode cX4_turn 55 = .ok (.iload_n 1, 1) := dk_get _ da_cX4_turn_0 29 _ _ _ rfl
theorem dX4_turn_56 : decode cX4_turn 56 = .ok (.iload_n 2, 1) := dk_get _ da_cX4_turn_0 30 _ _ _ rfl
theorem dX4_turn_57 : decode cX4_turn 57 = .ok (.invokevirtual 87, 3) := dk_get _ da_cX4_turn_0 31 _ _ _ rfl
theorem dX4_turn_60 : decode cX4_turn 60 = .ok (.ireturn, 1) := dk_get _ da_cX4_turn_0 32 _ _ _ rfl
set_option maxRecDepth 20000 in
theorem ggX4_swap_X0_hasPlace : GoodIn wsX4_swap wsX0_hasPlace := goodIn_r _ [13, 14, 121, 122] rfl (by decide +kernel)
set_option maxRecDepth 20000 in
theorem gX4_swap_X0_hasPlace : GoodIn wsX4_swap (wsV RX4 64 RX0 yX0_hasPlace wsX0_hasPlace) := goodIn_app (goodIn_r _ [9, 10, 11, 12] rfl (by decide +kernel)) ggX4_swap_X0_hasPlace
set_option maxRecDepth 20000 in
theorem ggX4_swap_X4_laidTree : GoodIn wsX4_swap wsX4_laidTree := goodIn_r _ [19, 20, 21, 22, 23, 1, 24, 25, 26, 27, 28, 29, 30, 31, 32, 33, 34, 35, 36, 37, 38, 39, 40, 41, 42, 43, 44, 45, 46, 47, 48, 49, 50, 51, 52, 53, 54, 55, 56, 57, 58, 59, 60, 61, 62, 63, 64, 65, 66, 67, 68, 69, 70, 71, 72, 73, 74, 75, 76, 77, 78, 79, 80, 81, 82, 83, 84, 85, 86, 87, 88, 89, 90, 91, 92, 93, 94, 95, 96, 97, 98, 99, 100, 101, 102, 103, 104, 3, 4, 5, 105, 106, 112, 113, 114, 115, 116, 117, 118, 119, 120, 123, 124, 125, 126, 127, 128, 129, 130, 131, 132, 133, 121, 122, 134, 135, 136, 137, 138] rfl (by decide +kernel)
set_option maxRecDepth 20000 in
theorem gX4_swap_X4_laidTree : GoodIn wsX4_swap (wsV RX4 71 RX4 yX4_laidTree wsX4_laidTree) := goodIn_app (goodIn_r _ [15, 16, 17, 18] rfl (by decide +kernel)) ggX4_swap_X4_laidTree
set_option maxRecDepth 20000 in
theorem ggX4_swap_X0_exchange : GoodIn wsX4_swap wsX0_exchange := goodIn_r _ [110, 111, 121, 122] rfl (by decide +kernel)
set_option maxRecDepth 20000 in
theorem gX4_swap_X0_exchange : GoodIn wsX4_swap (wsV RX4 83 RX0 yX0_exchange wsX0_exchange) := goodIn_app (goodIn_r _ [107, 108, 109, 12] rfl (by decide +kernel)) ggX4_swap_X0_exchange
set_option maxRecDepth 20000 in
theorem ggX4_swap_X2_renew : GoodIn wsX4_swap wsX2_renew := goodIn_r _ [46, 32, 33, 34, 47, 48, 49, 28, 50, 51, 30, 52, 53, 54, 55, 56, 57, 58, 59, 60, 61, 62, 63, 64, 65, 66, 67, 68, 69, 70, 71, 72, 73, 74, 75, 76, 39, 40, 41, 42, 77, 78, 79, 80, 81, 82, 83, 84, 85, 86, 87, 88, 89, 90, 91, 92, 93, 94, 95, 96, 97, 98, 99, 100, 101, 102, 103, 104, 3, 4, 5, 105, 106, 123, 124, 125, 126, 127, 128, 129, 130, 131, 132, 133, 121, 122, 134, 135, 136, 137, 138] rfl (by decide +kernel)
set_option maxRecDepth 20000 in
theorem gX4_swap_X2_renew : GoodIn wsX4_swap (wsV RX4 87 RX2 yX2_renew wsX2_renew) := goodIn_app (goodIn_r _ [43, 44, 45, 28] rfl (by decide +kernel)) ggX4_swap_X2_renew
def dt_cX4_swap_0 : List (Nat × Instr × Nat) := [(0, .aload_n 0, 1), (1, .getfield 12, 3), (4, .iload_n 1, 1), (5, .invokevirtual 64, 3), (8, .ifCond .eq 14, 3), (11, .aload_n 0, 1), (12, .getfield 12, 3), (15, .iload_n 2, 1), (16, .invokevirtual 64, 3), (19, .ifCond .ne 5, 3), (22, .iconst (-1), 1), (23, .ireturn, 1), (24, .aload_n 0, 1), (25, .invokevirtual 71, 3), (28, .astore_n 3, 1), (29, .aload_n 0, 1), (30, .getfield 12, 3), (33, .iload_n 1, 1), (34, .iload_n 2, 1), (35, .invokevirtual 83, 3), (38, .aload_n 3, 1), (39, .iload_n 1, 1), (40, .iload_n 2, 1), (41, .invokestatic 91, 3), (44, .iload_n 1, 1), (45, .iload_n 2, 1), (46, .invokestatic 96, 3), (49, .iconst 1, 1), (50, .iadd, 1), (51, .invokevirtual 87, 3), (54, .ireturn, 1)]
theorem da_cX4_swap_0 : dk_all cX4_swap dt_cX4_swap_0 = true := by decide +kernel
theorem dX4_swap_0 : decode cX4_swap 0 = .ok (.aload_n 0, 1) := dk_get _ da_cX4_swap_0 0 _ _ _ rfl
theorem dX4_swap_1 : decode cX4_swap 1 = .ok (.getfield 12, 3) := dk_get _ da_cX4_swap_0 1 _ _ _ rfl
theorem dX4_swap_4 : decode cX4_swap 4 = .ok (.iload_n 1, 1) := dk_get _ da_cX4_swap_0 2 _ _ _ rfl
theorem dX4_swap_5 : decode cX4_swap 5 = .ok (.invokevirtual 64, 3) := dk_get _ da_cX4_swap_0 3 _ _ _ rfl
theorem dX4_swap_8 : decode cX4_swap 8 = .ok (.ifCond .eq 14, 3) := dk_get _ da_cX4_swap_0 4 _ _ _ rfl
theorem dX4_swap_11 : decode cX4_swap 11 = .ok (.aload_n 0, 1) := dk_get _ da_cX4_swap_0 5 _ _ _ rfl
theorem dX4_swap_12 : decode cX4_swap 12 = .ok (.getfield 12, 3) := dk_get _ da_cX4_swap_0 6 _ _ _ rfl
theorem dX4_swap_15 : decode cX4_swap 15 = .ok (.iload_n 2, 1) := dk_get _ da_cX4_swap_0 7 _ _ _ rfl
theorem dX4_swap_16 : decode cX4_swap 16 = .ok (.invokevirtual 64, 3) := dk_get _ da_cX4_swap_0 8 _ _ _ rfl
theorem dX4_swap_19 : decode cX4_swap 19 = .ok (.ifCond .ne 5, 3) := dk_get _ da_cX4_swap_0 9 _ _ _ rfl
theorem dX4_swap_22 : decode cX4_swap 22 = .ok (.iconst (-1), 1) := dk_get _ da_cX4_swap_0 10 _ _ _ rfl
theorem dX4_swap_23 : decode cX4_swap 23 = .ok (.ireturn, 1) := dk_get _ da_cX4_swap_0 11 _ _ _ rfl
theorem dX4_swap_24 : decode cX4_swap 24 = .ok (.aload_n 0, 1) := dk_get _ da_cX4_swap_0 12 _ _ _ rfl
theorem dX4_swap_25 : decode cX4_swap 25 = .ok (.invokevirtual 71, 3) := dk_get _ da_cX4_swap_0 13 _ _ _ rfl
theorem dX4_swap_28 : decode cX4_swap 28 = .ok (.astore_n 3, 1) := dk_get _ da_cX4_swap_0 14 _ _ _ rfl
theorem dX4_swap_29 : decode cX4_swap 29 = .ok (.aload_n 0, 1) := dk_get _ da_cX4_swap_0 15 _ _ _ rfl
theorem dX4_swap_30 : decode cX4_swap 30 = .ok (.getfield 12, 3) := dk_get _ da_cX4_swap_0 16 _ _ _ rfl
theorem dX4_swap_33 : decode cX4_swap 33 = .ok (.iload_n 1, 1) := dk_get _ da_cX4_swap_0 17 _ _ _ rfl
theorem dX4_swap_34 : decode cX4_swap 34 = .ok (.iload_n 2, 1) := dk_get _ da_cX4_swap_0 18 _ _ _ rfl
theorem dX4_swap_35 : decode cX4_swap 35 = .ok (.invokevirtual 83, 3) := dk_get _ da_cX4_swap_0 19 _ _ _ rfl
theorem dX4_swap_38 : decode cX4_swap 38 = .ok (.aload_n 3, 1) := dk_get _ da_cX4_swap_0 20 _ _ _ rfl
theorem dX4_swap_39 : decode cX4_swap 39 = .ok (.iload_n 1, 1) := dk_get _ da_cX4_swap_0 21 _ _ _ rfl
theorem dX4_swap_40 : decode cX4_swap 40 = .ok (.iload_n 2, 1) := dk_get _ da_cX4_swap_0 22 _ _ _ rfl
theorem dX4_swap_41 : decode cX4_swap 41 = .ok (.invokestatic 91, 3) := dk_get _ da_cX4_swap_0 23 _ _ _ rfl
theorem dX4_swap_44 : decode cX4_swap 44 = .ok (.iload_n 1, 1) := dk_get _ da_cX4_swap_0 24 _ _ _ rfl
theorem dX4_swap_45 : decode cX4_swap 45 = .ok (.iload_n 2, 1) := dk_get _ da_cX4_swap_0 25 _ _ _ rfl
theorem dX4_swap_46 : decode cX4_swap 46 = .ok (.invokestatic 96, 3) := dk_get _ da_cX4_swap_0 26 _ _ _ rfl
theorem dX4_swap_49 : decode cX4_swap 49 = .ok (.iconst 1, 1) := dk_get _ da_cX4_swap_0 27 _ _ _ rfl
theorem dX4_swap_50 : decode cX4_swap 50 = .ok (.iadd, 1) := dk_get _ da_cX4_swap_0 28 _ _ _ rfl
theorem dX4_swap_51 : decode cX4_swap 51 = .ok (.invokevirtual 87, 3) := dk_get _ da_cX4_swap_0 29 _ _ _ rfl
theorem dX4_swap_54 : decode cX4_swap 54 = .ok (.ireturn, 1) := dk_get _ da_cX4_swap_0 30 _ _ _ rfl
set_option maxRecDepth 20000 in
theorem ggX4_least_X0_hasRange : GoodIn wsX4_least wsX0_hasRange := goodIn_r _ [8, 9, 154, 155] rfl (by decide +kernel)
set_option maxRecDepth 20000 in
theorem gX4_least_X0_hasRange : GoodIn wsX4_least (wsV RX4 79 RX0 yX0_hasRange wsX0_hasRange) := goodIn_app (goodIn_r _ [4, 5, 6, 7] rfl (by decide +kernel)) ggX4_least_X0_hasRange
set_option maxRecDepth 20000 in
theorem ggX4_least_X4_isShare : GoodIn wsX4_least wsX4_isShare := goodIn_r _ [13] rfl (by decide +kernel)
set_option maxRecDepth 20000 in
theorem gX4_least_X4_isShare : GoodIn wsX4_least (va_wsS RX4 186 yX4_isShare wsX4_isShare) := goodIn_app (goodIn_r _ [10, 11, 12] rfl (by decide +kernel)) ggX4_least_X4_isShare
set_option maxRecDepth 20000 in
theorem ggX4_least_X4_heavyValues : GoodIn wsX4_least wsX4_heavyValues := goodIn_r _ [17, 1, 18, 19, 20, 21, 7, 22, 23, 24, 25, 12, 26, 134, 135, 136, 137, 138, 139, 140, 141, 142, 154, 155] rfl (by decide +kernel)
set_option maxRecDepth 20000 in
theorem gX4_least_X4_heavyValues : GoodIn wsX4_least (wsV RX4 196 RX4 yX4_heavyValues wsX4_heavyValues) := goodIn_app (goodIn_r _ [14, 15, 16, 12] rfl (by decide +kernel)) ggX4_least_X4_heavyValues
set_option maxRecDepth 20000 in
theorem ggX4_least_X4_laidTree : GoodIn wsX4_least wsX4_laidTree := goodIn_r _ [30, 31, 32, 2, 3, 1, 33, 34, 35, 36, 37, 38, 39, 40, 41, 42, 43, 44, 45, 46, 47, 48, 49, 50, 51, 52, 53, 54, 55, 56, 57, 58, 59, 60, 61, 62, 63, 64, 65, 66, 67, 68, 69, 70, 71, 72, 73, 74, 75, 76, 77, 78, 79, 80, 81, 82, 83, 84, 85, 86, 87, 88, 89, 90, 91, 92, 93, 94, 95, 96, 97, 98, 99, 100, 101, 102, 103, 104, 105, 106, 107, 108, 109, 110, 111, 112, 113, 114, 115, 116, 117, 118, 134, 135, 136, 137, 138, 139, 140, 141, 142, 143, 144, 145, 146, 147, 148, 149, 150, 151, 152, 153, 154, 155, 156, 157, 158, 159, 160] rfl (by decide +kernel)
set_option maxRecDepth 20000 in
theorem gX4_least_X4_laidTree : GoodIn wsX4_least (wsV RX4 71 RX4 yX4_laidTree wsX4_laidTree) := goodIn_app (goodIn_r _ [27, 28, 29, 12] rfl (by decide +kernel)) ggX4_least_X4_laidTree
set_option maxRecDepth 20000 in
theorem ggX4_least_X4_heavyVotesBy : GoodIn wsX4_least wsX4_heavyVotesBy := goodIn_r _ [122, 3, 123, 124, 1, 125, 52, 53, 54, 37, 55, 41, 42, 43, 56, 57, 58, 59, 60, 39, 61, 62, 63, 64, 65, 66, 67, 68, 69, 70, 71, 72, 73, 74, 75, 76, 77, 78, 79, 80, 81, 82, 83, 84, 85, 48, 49, 50, 51, 86, 87, 88, 89, 90, 91, 92, 93, 94, 95, 96, 97, 98, 99, 100, 101, 102, 103, 104, 105, 106, 107, 108, 109, 110, 111, 112, 113, 114, 115, 116, 117, 118, 126, 127, 128, 129, 130, 131, 132, 133, 19, 20, 21, 7, 22, 23, 24, 25, 12, 26, 143, 144, 145, 146, 147, 148, 149, 150, 151, 152, 153, 134, 135, 136, 137, 138, 139, 140, 141, 142, 156, 157, 158, 159, 160, 154, 155] rfl (by decide +kernel)
set_option maxRecDepth 20000 in
theorem gX4_least_X4_heavyVotesBy : GoodIn wsX4_least (wsV RX4 200 RX4 yX4_heavyVotesBy wsX4_heavyVotesBy) := goodIn_app (goodIn_r _ [119, 120, 121, 12] rfl (by decide +kernel)) ggX4_least_X4_heavyVotesBy
set_option maxRecDepth 20000 in
theorem ggX4_least_X2_renew : GoodIn wsX4_least wsX2_renew := goodIn_r _ [55, 41, 42, 43, 56, 57, 58, 37, 59, 60, 39, 61, 62, 63, 64, 65, 66, 67, 68, 69, 70, 71, 72, 73, 74, 75, 76, 77, 78, 79, 80, 81, 82, 83, 84, 85, 48, 49, 50, 51, 86, 87, 88, 89, 90, 91, 92, 93, 94, 95, 96, 97, 98, 99, 100, 101, 102, 103, 104, 105, 106, 107, 108, 109, 110, 111, 112, 113, 114, 115, 116, 117, 118, 143, 144, 145, 146, 147, 148, 149, 150, 151, 152, 153, 154, 155, 156, 157, 158, 159, 160] rfl (by decide +kernel)
set_option maxRecDepth 20000 in
theorem gX4_least_X2_renew : GoodIn wsX4_least (wsV RX4 87 RX2 yX2_renew wsX2_renew) := goodIn_app (goodIn_r _ [52, 53, 54, 37] rfl (by decide +kernel)) ggX4_least_X2_renew
def dt_cX4_least_0 : List (Nat × Instr × Nat) := [(0, .aload_n 0, 1), (1, .getfield 12, 3), (4, .iload_n 1, 1), (5, .iload_n 2, 1), (6, .invokevirtual 79, 3), (9, .ifCond .eq 20, 3), (12, .iload_n 2, 1), (13, .iload_n 1, 1), (14, .isub, 1), (15, .bipush 64, 2), (17, .if_icmp .gt 12, 3), (20, .iload_n 3, 1), (21, .iload 4, 2), (23, .invokestatic 186, 3), (26, .ifCond .ne 5, 3), (29, .iconst (-1), 1), (30, .ireturn, 1), (31, .aload_n 0, 1), (32, .iload_n 1, 1), (33, .iload_n 2, 1), (34, .iload_n 3, 1), (35, .iload 4, 2), (37, .invokevirtual 196, 3), (40, .istore 5, 2), (42, .bipush (-2), 2), (44, .istore 6, 2), (46, .aload_n 0, 1), (47, .invokevirtual 71, 3), (50, .astore 7, 2), (52, .iconst 1, 1), (53, .istore 8, 2), (55, .iload 8, 2), (57, .bipush 6, 2), (59, .if_icmp .gt 45, 3), (62, .iload 6, 2), (64, .bipush (-2), 2), (66, .if_icmp .ne 38, 3), (69, .iload 8, 2), (71, .iload 5, 2), (73, .if_icmp .lt 25, 3), (76, .aload_n 0, 1), (77, .aload 7, 2), (79, .iload 8, 2), (81, .iload_n 1, 1), (82, .iload_n 2, 1), (83, .iload_n 3, 1), (84, .iload 4, 2), (86, .invokevirtual 200, 3), (89, .iload 5, 2), (91, .if_icmp .ne 7, 3), (94, .iload 8, 2), (96, .istore 6, 2), (98, .iinc 8 1, 3), (101, .goto (-46), 3), (104, .aload 7, 2), (106, .aload_n 0, 1), (107, .getfield 49, 3), (110, .putfield 204, 3), (113, .aload 7, 2), (115, .iload_n 1, 1)]
theorem da_cX4_least_0 : dk_all cX4_least dt_cX4_least_0 = true := by decide +kernel
theorem dX4_least_0 : decode cX4_least 0 = .ok (.aload_n 0, 1) := dk_get _ da_cX4_least_0 0 _ _ _ rfl
theorem dX4_least_1 : decode cX4_least 1 = .ok (.getfield 12, 3) := dk_get _ da_cX4_least_0 1 _ _ _ rfl
theorem dX4_least_4 : decode cX4_least 4 = .ok (.iload_n 1, 1) := dk_get _ da_cX4_least_0 2 _ _ _ rfl
theorem dX4_least_5 : decode cX4_least 5 = .ok (.iload_n 2, 1) := dk_get _ da_cX4_least_0 3 _ _ _ rfl
theorem dX4_least_6 : decode cX4_least 6 = .ok (.invokevirtual 79, 3) := dk_get _ da_cX4_least_0 4 _ _ _ rfl
theorem dX4_least_9 : decode cX4_least 9 = .ok (.ifCond .eq 20, 3) := dk_get _ da_cX4_least_0 5 _ _ _ rfl
theorem dX4_least_12 : decode cX4_least 12 = .ok (.iload_n 2, 1) := dk_get _ da_cX4_least_0 6 _ _ _ rfl
theorem dX4_least_13 : decode cX4_least 13 = .ok (.iload_n 1, 1) := dk_get _ da_cX4_least_0 7 _ _ _ rfl
theorem dX4_least_14 : decode cX4_least 14 = .ok (.isub, 1) := dk_get _ da_cX4_least_0 8 _ _ _ rfl
theorem dX4_least_15 : decode cX4_least 15 = .ok (.bipush 64, 2) := dk_get _ da_cX4_least_0 9 _ _ _ rfl
theorem dX4_least_17 : decode cX4_least 17 = .ok (.if_icmp .gt 12, 3) := dk_get _ da_cX4_least_0 10 _ _ _ rfl
theorem dX4_least_20 : decode cX4_least 20 = .ok (.iload_n 3, 1) := dk_get _ da_cX4_least_0 11 _ _ _ rfl
theorem dX4_least_21 : decode cX4_least 21 = .ok (.iload 4, 2) := dk_get _ da_cX4_least_0 12 _ _ _ rfl
theorem dX4_least_23 : decode cX4_least 23 = .ok (.invokestatic 186, 3) := dk_get _ da_cX4_least_0 13 _ _ _ rfl
theorem dX4_least_26 : decode cX4_least 26 = .ok (.ifCond .ne 5, 3) := dk_get _ da_cX4_least_0 14 _ _ _ rfl
theorem dX4_least_29 : decode cX4_least 29 = .ok (.iconst (-1), 1) := dk_get _ da_cX4_least_0 15 _ _ _ rfl
theorem dX4_least_30 : decode cX4_least 30 = .ok (.ireturn, 1) := dk_get _ da_cX4_least_0 16 _ _ _ rfl
theorem dX4_least_31 : decode cX4_least 31 = .ok (.aload_n 0, 1) := dk_get _ da_cX4_least_0 17 _ _ _ rfl
theorem dX4_least_32 : decode cX4_least 32 = .ok (.iload_n 1, 1) := dk_get _ da_cX4_least_0 18 _ _ _ rfl
theorem dX4_least_33 : decode cX4_least 33 = .ok (.iload_n 2, 1) := dk_get _ da_cX4_least_0 19 _ _ _ rfl
theorem dX4_least_34 : decode cX4_least 34 = .ok (.iload_n 3, 1) := dk_get _ da_cX4_least_0 20 _ _ _ rfl
theorem dX4_least_35 : decode cX4_least 35 = .ok (.iload 4, 2) := dk_get _ da_cX4_least_0 21 _ _ _ rfl
theorem dX4_least_37 : decode cX4_least 37 = .ok (.invokevirtual 196, 3) := dk_get _ da_cX4_least_0 22 _ _ _ rfl
theorem dX4_least_40 : decode cX4_least 40 = .ok (.istore 5, 2) := dk_get _ da_cX4_least_0 23 _ _ _ rfl
theorem dX4_least_42 : decode cX4_least 42 = .ok (.bipush (-2), 2) := dk_get _ da_cX4_least_0 24 _ _ _ rfl
theorem dX4_least_44 : decode cX4_least 44 = .ok (.istore 6, 2) := dk_get _ da_cX4_least_0 25 _ _ _ rfl
theorem dX4_least_46 : decode cX4_least 46 = .ok (.aload_n 0, 1) := dk_get _ da_cX4_least_0 26 _ _ _ rfl
theorem dX4_least_47 : decode cX4_least 47 = .ok (.invokevirtual 71, 3) := dk_get _ da_cX4_least_0 27 _ _ _ rfl
theorem dX4_least_50 : decode cX4_least 50 = .ok (.astore 7, 2) := dk_get _ da_cX4_least_0 28 _ _ _ rfl
theorem dX4_least_52 : decode cX4_least 52 = .ok (.iconst 1, 1) := dk_get _ da_cX4_least_0 29 _ _ _ rfl
theorem dX4_least_53 : decode cX4_least 53 = .ok (.istore 8, 2) := dk_get _ da_cX4_least_0 30 _ _ _ rfl
theorem dX4_least_55 : decode cX4_least 55 = .ok (.iload 8, 2) := dk_get _ da_cX4_least_0 31 _ _ _ rfl
theorem dX4_least_57 : decode cX4_least 57 = .ok (.bipush 6, 2) := dk_get _ da_cX4_least_0 32 _ _ _ rfl
theorem dX4_least_59 : decode cX4_least 59 = .ok (.if_icmp .gt 45, 3) := dk_get _ da_cX4_least_0 33 _ _ _ rfl
theorem dX4_least_62 : decode cX4_least 62 = .ok (.iload 6, 2) := dk_get _ da_cX4_least_0 34 _ _ _ rfl
theorem dX4_least_64 : decode cX4_least 64 = .ok (.bipush (-2), 2) := dk_get _ da_cX4_least_0 35 _ _ _ rfl
theorem dX4_least_66 : decode cX4_least 66 = .ok (.if_icmp .ne 38, 3) := dk_get _ da_cX4_least_0 36 _ _ _ rfl
theorem dX4_least_69 : decode cX4_least 69 = .ok (.iload 8, 2) := dk_get _ da_cX4_least_0 37 _ _ _ rfl
theorem dX4_least_71 : decode cX4_least 71 = .ok (.iload 5, 2) := dk_get _ da_cX4_least_0 38 _ _ _ rfl
theorem dX4_least_73 : decode cX4_least 73 = .ok (.if_icmp .lt 25, 3) := dk_get _ da_cX4_least_0 39 _ _ _ rfl
theorem dX4_least_76 : decode cX4_least 76 = .ok (.aload_n 0, 1) := dk_get _ da_cX4_least_0 40 _ _ _ rfl
theorem dX4_least_77 : decode cX4_least 77 = .ok (.aload 7, 2) := dk_get _ da_cX4_least_0 41 _ _ _ rfl
theorem dX4_least_79 : decode cX4_least 79 = .ok (.iload 8, 2) := dk_get _ da_cX4_least_0 42 _ _ _ rfl
theorem dX4_least_81 : decode cX4_least 81 = .ok (.iload_n 1, 1) := dk_get _ da_cX4_least_0 43 _ _ _ rfl
theorem dX4_least_82 : decode cX4_least 82 = .ok (.iload_n 2, 1) := dk_get _ da_cX4_least_0 44 _ _ _ rfl
theorem dX4_least_83 : decode cX4_least 83 = .ok (.iload_n 3, 1) := dk_get _ da_cX4_least_0 45 _ _ _ rfl
theorem dX4_least_84 : decode cX4_least 84 = .ok (.iload 4, 2) := dk_get _ da_cX4_least_0 46 _ _ _ rfl
theorem dX4_least_86 : decode cX4_least 86 = .ok (.invokevirtual 200, 3) := dk_get _ da_cX4_least_0 47 _ _ _ rfl
theorem dX4_least_89 : decode cX4_least 89 = .ok (.iload 5, 2) := dk_get _ da_cX4_least_0 48 _ _ _ rfl
theorem dX4_least_91 : decode cX4_least 91 = .ok (.if_icmp .ne 7, 3) := dk_get _ da_cX4_least_0 49 _ _ _ rfl
theorem dX4_least_94 : decode cX4_least 94 = .ok (.iload 8, 2) := dk_get _ da_cX4_least_0 50 _ _ _ rfl
theorem dX4_least_96 : decode cX4_least 96 = .ok (.istore 6, 2) := dk_get _ da_cX4_least_0 51 _ _ _ rfl
theorem dX4_least_98 : decode cX4_least 98 = .ok (.iinc 8 1, 3) := dk_get _ da_cX4_least_0 52 _ _ _ rfl
theorem dX4_least_101 : decode cX4_least 101 = .ok (.goto (-46), 3) := dk_get _ da_cX4_least_0 53 _ _ _ rfl
theorem dX4_least_104 : decode cX4_least 104 = .ok (.aload 7, 2) := dk_get _ da_cX4_least_0 54 _ _ _ rfl
theorem dX4_least_106 : decode cX4_least 106 = .ok (.aload_n 0, 1) := dk_get _ da_cX4_least_0 55 _ _ _ rfl
theorem dX4_least_107 : decode cX4_least 107 = .ok (.getfield 49, 3) := dk_get _ da_cX4_least_0 56 _ _ _ rfl
theorem dX4_least_110 : decode cX4_least 110 = .ok (.putfield 204, 3) := dk_get _ da_cX4_least_0 57 _ _ _ rfl
theorem dX4_least_113 : decode cX4_least 113 = .ok (.aload 7, 2) := dk_get _ da_cX4_least_0 58 _ _ _ rfl
theorem dX4_least_115 : decode cX4_least 115 = .ok (.iload_n 1, 1) := dk_get _ da_cX4_least_0 59 _ _ _ rfl
def dt_cX4_least_1 : List (Nat × Instr × Nat) := [(116, .iload_n 2, 1), (117, .invokevirtual 87, 3), (120, .pop, 1), (121, .iload 6, 2), (123, .ireturn, 1)]
theorem da_cX4_least_1 : dk_all cX4_least dt_cX4_least_1 = true := by decide +kernel
theorem dX4_least_116 : decode cX4_least 116 = .ok (.iload_n 2, 1) := dk_get _ da_cX4_least_1 0 _ _ _ rfl
theorem dX4_least_117 : decode cX4_least 117 = .ok (.invokevirtual 87, 3) := dk_get _ da_cX4_least_1 1 _ _ _ rfl
theorem dX4_least_120 : decode cX4_least 120 = .ok (.pop, 1) := dk_get _ da_cX4_least_1 2 _ _ _ rfl
theorem dX4_least_121 : decode cX4_least 121 = .ok (.iload 6, 2) := dk_get _ da_cX4_least_1 3 _ _ _ rfl
theorem dX4_least_123 : decode cX4_least 123 = .ok (.ireturn, 1) := dk_get _ da_cX4_least_1 4 _ _ _ rfl
set_option maxRecDepth 20000 in
theorem ggX4_both_X4_refusalOfBoth : GoodIn wsX4_both wsX4_refusalOfBoth := goodIn_r _ [7, 8, 9, 10, 11, 12, 13, 14, 15, 16, 6, 17, 18, 19, 20, 21, 22, 152, 153, 154, 155, 156, 157, 158, 159, 160, 166, 167] rfl (by decide +kernel)
set_option maxRecDepth 20000 in
theorem gX4_both_X4_refusalOfBoth : GoodIn wsX4_both (wsV RX4 210 RX4 yX4_refusalOfBoth wsX4_refusalOfBoth) := goodIn_app (goodIn_r _ [3, 4, 5, 6] rfl (by decide +kernel)) ggX4_both_X4_refusalOfBoth
set_option maxRecDepth 20000 in
theorem ggX4_both_X4_laidTree : GoodIn wsX4_both wsX4_laidTree := goodIn_r _ [26, 27, 28, 22, 29, 8, 30, 31, 32, 33, 34, 35, 36, 37, 38, 39, 40, 41, 42, 43, 44, 45, 46, 47, 48, 49, 50, 51, 52, 53, 54, 55, 56, 57, 58, 59, 60, 61, 62, 63, 64, 65, 66, 67, 68, 69, 70, 71, 72, 73, 74, 75, 76, 77, 78, 79, 80, 81, 82, 83, 84, 85, 86, 87, 88, 89, 90, 91, 92, 93, 94, 95, 96, 97, 98, 99, 100, 101, 102, 103, 104, 105, 106, 107, 108, 109, 110, 111, 112, 113, 114, 115, 152, 153, 154, 155, 156, 157, 158, 159, 160, 168, 169, 170, 171, 172, 173, 174, 175, 176, 177, 178, 166, 167, 161, 162, 163, 164, 165] rfl (by decide +kernel)
set_option maxRecDepth 20000 in
theorem gX4_both_X4_laidTree : GoodIn wsX4_both (wsV RX4 71 RX4 yX4_laidTree wsX4_laidTree) := goodIn_app (goodIn_r _ [23, 24, 25, 6] rfl (by decide +kernel)) ggX4_both_X4_laidTree
set_option maxRecDepth 20000 in
theorem ggX4_both_X4_gatherHeavyOfBoth : GoodIn wsX4_both wsX4_gatherHeavyOfBoth := goodIn_r _ [119, 1, 120, 111, 112, 113, 121, 122, 123, 124, 22, 2, 125, 126, 8, 127, 128, 129, 34, 130, 38, 40, 59, 60, 61, 62, 63, 64, 65, 66, 67, 131, 132, 133, 134, 39, 74, 75, 76, 77, 78, 79, 80, 81, 82, 68, 69, 70, 71, 72, 73, 83, 84, 85, 86, 87, 88, 89, 90, 91, 92, 93, 94, 95, 96, 97, 98, 135, 136, 137, 138, 139, 140, 141, 142, 143, 12, 144, 145, 146, 147, 148, 149, 150, 6, 151, 152, 153, 154, 155, 156, 157, 158, 159, 160, 161, 162, 163, 164, 165, 168, 169, 170, 171, 172, 173, 174, 175, 176, 177, 178, 166, 167] rfl (by decide +kernel)
set_option maxRecDepth 20000 in
theorem gX4_both_X4_gatherHeavyOfBoth : GoodIn wsX4_both (wsV RX4 214 RX4 yX4_gatherHeavyOfBoth wsX4_gatherHeavyOfBoth) := goodIn_app (goodIn_r _ [116, 117, 118, 6] rfl (by decide +kernel)) ggX4_both_X4_gatherHeavyOfBoth
def dt_cX4_both_0 : List (Nat × Instr × Nat) := [(0, .aload_n 0, 1), (1, .iload_n 1, 1), (2, .iload_n 2, 1), (3, .iload_n 3, 1), (4, .iload 4, 2), (6, .iload 5, 2), (8, .iload 6, 2), (10, .invokevirtual 210, 3), (13, .istore 7, 2), (15, .iload 7, 2), (17, .ifCond .eq 6, 3), (20, .iload 7, 2), (22, .ireturn, 1), (23, .aload_n 0, 1), (24, .aload_n 0, 1), (25, .invokevirtual 71, 3), (28, .iload_n 1, 1), (29, .iload_n 2, 1), (30, .iload_n 3, 1), (31, .iload 4, 2), (33, .iload 5, 2), (35, .iload 6, 2), (37, .invokevirtual 214, 3), (40, .aload_n 0, 1), (41, .getfield 35, 3), (44, .getfield 174, 3), (47, .ireturn, 1)]
theorem da_cX4_both_0 : dk_all cX4_both dt_cX4_both_0 = true := by decide +kernel
theorem dX4_both_0 : decode cX4_both 0 = .ok (.aload_n 0, 1) := dk_get _ da_cX4_both_0 0 _ _ _ rfl
theorem dX4_both_1 : decode cX4_both 1 = .ok (.iload_n 1, 1) := dk_get _ da_cX4_both_0 1 _ _ _ rfl
theorem dX4_both_2 : decode cX4_both 2 = .ok (.iload_n 2, 1) := dk_get _ da_cX4_both_0 2 _ _ _ rfl
theorem dX4_both_3 : decode cX4_both 3 = .ok (.iload_n 3, 1) := dk_get _ da_cX4_both_0 3 _ _ _ rfl
theorem dX4_both_4 : decode cX4_both 4 = .ok (.iload 4, 2) := dk_get _ da_cX4_both_0 4 _ _ _ rfl
theorem dX4_both_6 : decode cX4_both 6 = .ok (.iload 5, 2) := dk_get _ da_cX4_both_0 5 _ _ _ rfl
theorem dX4_both_8 : decode cX4_both 8 = .ok (.iload 6, 2) := dk_get _ da_cX4_both_0 6 _ _ _ rfl
theorem dX4_both_10 : decode cX4_both 10 = .ok (.invokevirtual 210, 3) := dk_get _ da_cX4_both_0 7 _ _ _ rfl
theorem dX4_both_13 : decode cX4_both 13 = .ok (.istore 7, 2) := dk_get _ da_cX4_both_0 8 _ _ _ rfl
theorem dX4_both_15 : decode cX4_both 15 = .ok (.iload 7, 2) := dk_get _ da_cX4_both_0 9 _ _ _ rfl
theorem dX4_both_17 : decode cX4_both 17 = .ok (.ifCond .eq 6, 3) := dk_get _ da_cX4_both_0 10 _ _ _ rfl
theorem dX4_both_20 : decode cX4_both 20 = .ok (.iload 7, 2) := dk_get _ da_cX4_both_0 11 _ _ _ rfl
theorem dX4_both_22 : decode cX4_both 22 = .ok (.ireturn, 1) := dk_get _ da_cX4_both_0 12 _ _ _ rfl
theorem dX4_both_23 : decode cX4_both 23 = .ok (.aload_n 0, 1) := dk_get _ da_cX4_both_0 13 _ _ _ rfl
theorem dX4_both_24 : decode cX4_both 24 = .ok (.aload_n 0, 1) := dk_get _ da_cX4_both_0 14 _ _ _ rfl
theorem dX4_both_25 : decode cX4_both 25 = .ok (.invokevirtual 71, 3) := dk_get _ da_cX4_both_0 15 _ _ _ rfl
theorem dX4_both_28 : decode cX4_both 28 = .ok (.iload_n 1, 1) := dk_get _ da_cX4_both_0 16 _ _ _ rfl
theorem dX4_both_29 : decode cX4_both 29 = .ok (.iload_n 2, 1) := dk_get _ da_cX4_both_0 17 _ _ _ rfl
theorem dX4_both_30 : decode cX4_both 30 = .ok (.iload_n 3, 1) := dk_get _ da_cX4_both_0 18 _ _ _ rfl
theorem dX4_both_31 : decode cX4_both 31 = .ok (.iload 4, 2) := dk_get _ da_cX4_both_0 19 _ _ _ rfl
theorem dX4_both_33 : decode cX4_both 33 = .ok (.iload 5, 2) := dk_get _ da_cX4_both_0 20 _ _ _ rfl
theorem dX4_both_35 : decode cX4_both 35 = .ok (.iload 6, 2) := dk_get _ da_cX4_both_0 21 _ _ _ rfl
theorem dX4_both_37 : decode cX4_both 37 = .ok (.invokevirtual 214, 3) := dk_get _ da_cX4_both_0 22 _ _ _ rfl
theorem dX4_both_40 : decode cX4_both 40 = .ok (.aload_n 0, 1) := dk_get _ da_cX4_both_0 23 _ _ _ rfl
theorem dX4_both_41 : decode cX4_both 41 = .ok (.getfield 35, 3) := dk_get _ da_cX4_both_0 24 _ _ _ rfl
theorem dX4_both_44 : decode cX4_both 44 = .ok (.getfield 174, 3) := dk_get _ da_cX4_both_0 25 _ _ _ rfl
theorem dX4_both_47 : decode cX4_both 47 = .ok (.ireturn, 1) := dk_get _ da_cX4_both_0 26 _ _ _ rfl
set_option maxRecDepth 20000 in
theorem ggX4_bothAt_X4_refusalOfBoth : GoodIn wsX4_bothAt wsX4_refusalOfBoth := goodIn_r _ [9, 10, 11, 12, 13, 14, 15, 16, 17, 18, 8, 19, 20, 21, 22, 23, 24, 153, 154, 155, 156, 157, 158, 159, 160, 161, 167, 168] rfl (by decide +kernel)
set_option maxRecDepth 20000 in
theorem gX4_bothAt_X4_refusalOfBoth : GoodIn wsX4_bothAt (wsV RX4 210 RX4 yX4_refusalOfBoth wsX4_refusalOfBoth) := goodIn_app (goodIn_r _ [5, 6, 7, 8] rfl (by decide +kernel)) ggX4_bothAt_X4_refusalOfBoth
set_option maxRecDepth 20000 in
theorem ggX4_bothAt_X4_laidTree : GoodIn wsX4_bothAt wsX4_laidTree := goodIn_r _ [28, 29, 30, 24, 31, 10, 32, 33, 34, 35, 36, 37, 38, 39, 40, 41, 42, 43, 44, 45, 46, 47, 48, 49, 50, 51, 52, 53, 54, 55, 56, 57, 58, 59, 60, 61, 62, 63, 64, 65, 66, 67, 68, 69, 70, 71, 72, 73, 74, 75, 76, 77, 78, 79, 80, 81, 82, 83, 84, 85, 86, 87, 88, 89, 90, 91, 92, 93, 94, 95, 96, 97, 98, 99, 100, 101, 102, 103, 104, 105, 106, 107, 108, 109, 110, 111, 112, 113, 114, 115, 116, 117, 153, 154, 155, 156, 157, 158, 159, 160, 161, 169, 170, 171, 172, 173, 174, 175, 176, 177, 178, 179, 167, 168, 162, 163, 164, 165, 166] rfl (by decide +kernel)
set_option maxRecDepth 20000 in
theorem gX4_bothAt_X4_laidTree : GoodIn wsX4_bothAt (wsV RX4 71 RX4 yX4_laidTree wsX4_laidTree) := goodIn_app (goodIn_r _ [25, 26, 27, 8] rfl (by decide +kernel)) ggX4_bothAt_X4_laidTree
set_option maxRecDepth 20000 in
theorem ggX4_bothAt_X4_gatherHeavyOfBoth : GoodIn wsX4_bothAt wsX4_gatherHeavyOfBoth := goodIn_r _ [121, 2, 122, 113, 114, 115, 123, 124, 125, 126, 24, 3, 4, 127, 10, 128, 129, 130, 36, 131, 40, 42, 61, 62, 63, 64, 65, 66, 67, 68, 69, 132, 133, 134, 135, 41, 76, 77, 78, 79, 80, 81, 82, 83, 84, 70, 71, 72, 73, 74, 75, 85, 86, 87, 88, 89, 90, 91, 92, 93, 94, 95, 96, 97, 98, 99, 100, 136, 137, 138, 139, 140, 141, 142, 143, 144, 14, 145, 146, 147, 148, 149, 150, 151, 8, 152, 153, 154, 155, 156, 157, 158, 159, 160, 161, 162, 163, 164, 165, 166, 169, 170, 171, 172, 173, 174, 175, 176, 177, 178, 179, 167, 168] rfl (by decide +kernel)
set_option maxRecDepth 20000 in
theorem gX4_bothAt_X4_gatherHeavyOfBoth : GoodIn wsX4_bothAt (wsV RX4 214 RX4 yX4_gatherHeavyOfBoth wsX4_gatherHeavyOfBoth) := goodIn_app (goodIn_r _ [118, 119, 120, 8] rfl (by decide +kernel)) ggX4_bothAt_X4_gatherHeavyOfBoth
def dt_cX4_bothAt_0 : List (Nat × Instr × Nat) := [(0, .iload 7, 2), (2, .ifCond .lt 19, 3), (5, .aload_n 0, 1), (6, .iload_n 1, 1), (7, .iload_n 2, 1), (8, .iload_n 3, 1), (9, .iload 4, 2), (11, .iload 5, 2), (13, .iload 6, 2), (15, .invokevirtual 210, 3), (18, .ifCond .eq 6, 3), (21, .ldc 102, 2), (23, .ireturn, 1), (24, .aload_n 0, 1), (25, .aload_n 0, 1), (26, .invokevirtual 71, 3), (29, .iload_n 1, 1), (30, .iload_n 2, 1), (31, .iload_n 3, 1), (32, .iload 4, 2), (34, .iload 5, 2), (36, .iload 6, 2), (38, .invokevirtual 214, 3), (41, .iload 7, 2), (43, .aload_n 0, 1), (44, .getfield 35, 3), (47, .getfield 174, 3), (50, .if_icmp .ge 16, 3), (53, .aload_n 0, 1), (54, .getfield 35, 3), (57, .getfield 133, 3), (60, .iload 7, 2), (62, .iaload, 1), (63, .goto 5, 3), (66, .ldc 102, 2), (68, .ireturn, 1)]
theorem da_cX4_bothAt_0 : dk_all cX4_bothAt dt_cX4_bothAt_0 = true := by decide +kernel
theorem dX4_bothAt_0 : decode cX4_bothAt 0 = .ok (.iload 7, 2) := dk_get _ da_cX4_bothAt_0 0 _ _ _ rfl
theorem dX4_bothAt_2 : decode cX4_bothAt 2 = .ok (.ifCond .lt 19, 3) := dk_get _ da_cX4_bothAt_0 1 _ _ _ rfl
theorem dX4_bothAt_5 : decode cX4_bothAt 5 = .ok (.aload_n 0, 1) := dk_get _ da_cX4_bothAt_0 2 _ _ _ rfl
theorem dX4_bothAt_6 : decode cX4_bothAt 6 = .ok (.iload_n 1, 1) := dk_get _ da_cX4_bothAt_0 3 _ _ _ rfl
theorem dX4_bothAt_7 : decode cX4_bothAt 7 = .ok (.iload_n 2, 1) := dk_get _ da_cX4_bothAt_0 4 _ _ _ rfl
theorem dX4_bothAt_8 : decode cX4_bothAt 8 = .ok (.iload_n 3, 1) := dk_get _ da_cX4_bothAt_0 5 _ _ _ rfl
theorem dX4_bothAt_9 : decode cX4_bothAt 9 = .ok (.iload 4, 2) := dk_get _ da_cX4_bothAt_0 6 _ _ _ rfl
theorem dX4_bothAt_11 : decode cX4_bothAt 11 = .ok (.iload 5, 2) := dk_get _ da_cX4_bothAt_0 7 _ _ _ rfl
theorem dX4_bothAt_13 : decode cX4_bothAt 13 = .ok (.iload 6, 2) := dk_get _ da_cX4_bothAt_0 8 _ _ _ rfl
theorem dX4_bothAt_15 : decode cX4_bothAt 15 = .ok (.invokevirtual 210, 3) := dk_get _ da_cX4_bothAt_0 9 _ _ _ rfl
theorem dX4_bothAt_18 : decode cX4_bothAt 18 = .ok (.ifCond .eq 6, 3) := dk_get _ da_cX4_bothAt_0 10 _ _ _ rfl
theorem dX4_bothAt_21 : decode cX4_bothAt 21 = .ok (.ldc 102, 2) := dk_get _ da_cX4_bothAt_0 11 _ _ _ rfl
theorem dX4_bothAt_23 : decode cX4_bothAt 23 = .ok (.ireturn, 1) := dk_get _ da_cX4_bothAt_0 12 _ _ _ rfl
theorem dX4_bothAt_24 : decode cX4_bothAt 24 = .ok (.aload_n 0, 1) := dk_get _ da_cX4_bothAt_0 13 _ _ _ rfl
theorem dX4_bothAt_25 : decode cX4_bothAt 25 = .ok (.aload_n 0, 1) := dk_get _ da_cX4_bothAt_0 14 _ _ _ rfl
theorem dX4_bothAt_26 : decode cX4_bothAt 26 = .ok (.invokevirtual 71, 3) := dk_get _ da_cX4_bothAt_0 15 _ _ _ rfl
theorem dX4_bothAt_29 : decode cX4_bothAt 29 = .ok (.iload_n 1, 1) := dk_get _ da_cX4_bothAt_0 16 _ _ _ rfl
theorem dX4_bothAt_30 : decode cX4_bothAt 30 = .ok (.iload_n 2, 1) := dk_get _ da_cX4_bothAt_0 17 _ _ _ rfl
theorem dX4_bothAt_31 : decode cX4_bothAt 31 = .ok (.iload_n 3, 1) := dk_get _ da_cX4_bothAt_0 18 _ _ _ rfl
theorem dX4_bothAt_32 : decode cX4_bothAt 32 = .ok (.iload 4, 2) := dk_get _ da_cX4_bothAt_0 19 _ _ _ rfl
theorem dX4_bothAt_34 : decode cX4_bothAt 34 = .ok (.iload 5, 2) := dk_get _ da_cX4_bothAt_0 20 _ _ _ rfl
theorem dX4_bothAt_36 : decode cX4_bothAt 36 = .ok (.iload 6, 2) := dk_get _ da_cX4_bothAt_0 21 _ _ _ rfl
theorem dX4_bothAt_38 : decode cX4_bothAt 38 = .ok (.invokevirtual 214, 3) := dk_get _ da_cX4_bothAt_0 22 _ _ _ rfl
theorem dX4_bothAt_41 : decode cX4_bothAt 41 = .ok (.iload 7, 2) := dk_get _ da_cX4_bothAt_0 23 _ _ _ rfl
theorem dX4_bothAt_43 : decode cX4_bothAt 43 = .ok (.aload_n 0, 1) := dk_get _ da_cX4_bothAt_0 24 _ _ _ rfl
theorem dX4_bothAt_44 : decode cX4_bothAt 44 = .ok (.getfield 35, 3) := dk_get _ da_cX4_bothAt_0 25 _ _ _ rfl
theorem dX4_bothAt_47 : decode cX4_bothAt 47 = .ok (.getfield 174, 3) := dk_get _ da_cX4_bothAt_0 26 _ _ _ rfl
theorem dX4_bothAt_50 : decode cX4_bothAt 50 = .ok (.if_icmp .ge 16, 3) := dk_get _ da_cX4_bothAt_0 27 _ _ _ rfl
theorem dX4_bothAt_53 : decode cX4_bothAt 53 = .ok (.aload_n 0, 1) := dk_get _ da_cX4_bothAt_0 28 _ _ _ rfl
theorem dX4_bothAt_54 : decode cX4_bothAt 54 = .ok (.getfield 35, 3) := dk_get _ da_cX4_bothAt_0 29 _ _ _ rfl
theorem dX4_bothAt_57 : decode cX4_bothAt 57 = .ok (.getfield 133, 3) := dk_get _ da_cX4_bothAt_0 30 _ _ _ rfl
theorem dX4_bothAt_60 : decode cX4_bothAt 60 = .ok (.iload 7, 2) := dk_get _ da_cX4_bothAt_0 31 _ _ _ rfl
theorem dX4_bothAt_62 : decode cX4_bothAt 62 = .ok (.iaload, 1) := dk_get _ da_cX4_bothAt_0 32 _ _ _ rfl
theorem dX4_bothAt_63 : decode cX4_bothAt 63 = .ok (.goto 5, 3) := dk_get _ da_cX4_bothAt_0 33 _ _ _ rfl
theorem dX4_bothAt_66 : decode cX4_bothAt 66 = .ok (.ldc 102, 2) := dk_get _ da_cX4_bothAt_0 34 _ _ _ rfl
theorem dX4_bothAt_68 : decode cX4_bothAt 68 = .ok (.ireturn, 1) := dk_get _ da_cX4_bothAt_0 35 _ _ _ rfl
set_option maxRecDepth 20000 in
theorem ggX4_swings_X0_hasRange : GoodIn wsX4_swings wsX0_hasRange := goodIn_r _ [6, 7, 129, 130] rfl (by decide +kernel)
set_option maxRecDepth 20000 in
theorem gX4_swings_X0_hasRange : GoodIn wsX4_swings (wsV RX4 79 RX0 yX0_hasRange wsX0_hasRange) := goodIn_app (goodIn_r _ [2, 3, 4, 5] rfl (by decide +kernel)) ggX4_swings_X0_hasRange
set_option maxRecDepth 20000 in
theorem ggX4_swings_X4_isValue : GoodIn wsX4_swings wsX4_isValue := goodIn_r _ [11] rfl (by decide +kernel)
set_option maxRecDepth 20000 in
theorem gX4_swings_X4_isValue : GoodIn wsX4_swings (va_wsS RX4 68 yX4_isValue wsX4_isValue) := goodIn_app (goodIn_r _ [8, 9, 10] rfl (by decide +kernel)) ggX4_swings_X4_isValue
set_option maxRecDepth 20000 in
theorem ggX4_swings_X4_laidTree : GoodIn wsX4_swings wsX4_laidTree := goodIn_r _ [15, 16, 17, 18, 19, 1, 20, 21, 22, 23, 24, 25, 26, 27, 28, 29, 30, 31, 32, 33, 34, 35, 36, 37, 38, 39, 40, 41, 42, 43, 44, 45, 46, 47, 48, 49, 50, 51, 52, 53, 54, 55, 56, 57, 58, 59, 60, 61, 62, 63, 64, 65, 66, 67, 68, 69, 70, 71, 72, 73, 74, 75, 76, 77, 78, 79, 80, 81, 82, 83, 84, 85, 86, 87, 88, 89, 90, 91, 92, 93, 94, 95, 96, 97, 98, 99, 100, 101, 102, 103, 104, 105, 120, 121, 122, 123, 124, 125, 126, 127, 128, 131, 132, 133, 134, 135, 136, 137, 138, 139, 140, 141, 129, 130, 142, 143, 144, 145, 146] rfl (by decide +kernel)
set_option maxRecDepth 20000 in
theorem gX4_swings_X4_laidTree : GoodIn wsX4_swings (wsV RX4 71 RX4 yX4_laidTree wsX4_laidTree) := goodIn_app (goodIn_r _ [12, 13, 14, 10] rfl (by decide +kernel)) ggX4_swings_X4_laidTree
set_option maxRecDepth 20000 in
theorem ggX4_swings_X4_rootTotalWith : GoodIn wsX4_swings wsX4_rootTotalWith := goodIn_r _ [109, 1, 110, 111, 39, 40, 41, 24, 42, 28, 29, 30, 43, 44, 45, 46, 47, 26, 48, 49, 50, 51, 52, 53, 54, 55, 56, 57, 58, 59, 60, 61, 62, 63, 64, 65, 66, 67, 68, 69, 70, 71, 72, 35, 36, 37, 38, 73, 74, 75, 76, 77, 78, 79, 80, 81, 82, 83, 84, 85, 86, 87, 88, 89, 90, 91, 92, 93, 94, 95, 96, 97, 98, 99, 100, 101, 102, 103, 104, 105, 112, 113, 114, 115, 116, 117, 118, 119, 120, 121, 122, 123, 124, 125, 126, 127, 128, 129, 130, 131, 132, 133, 134, 135, 136, 137, 138, 139, 140, 141, 142, 143, 144, 145, 146] rfl (by decide +kernel)
set_option maxRecDepth 20000 in
theorem gX4_swings_X4_rootTotalWith : GoodIn wsX4_swings (wsV RX4 246 RX4 yX4_rootTotalWith wsX4_rootTotalWith) := goodIn_app (goodIn_r _ [106, 107, 108, 10] rfl (by decide +kernel)) ggX4_swings_X4_rootTotalWith
def dt_cX4_swings_0 : List (Nat × Instr × Nat) := [(0, .aload_n 0, 1), (1, .getfield 12, 3), (4, .iload_n 1, 1), (5, .iload_n 2, 1), (6, .invokevirtual 79, 3), (9, .ifCond .eq 29, 3), (12, .iload_n 2, 1), (13, .iload_n 1, 1), (14, .isub, 1), (15, .bipush 40, 2), (17, .if_icmp .gt 21, 3), (20, .iload_n 3, 1), (21, .invokestatic 68, 3), (24, .ifCond .eq 14, 3), (27, .iload 4, 2), (29, .ifCond .lt 9, 3), (32, .iload 4, 2), (34, .iconst 1, 1), (35, .if_icmp .le 5, 3), (38, .iconst (-1), 1), (39, .ireturn, 1), (40, .aload_n 0, 1), (41, .invokevirtual 71, 3), (44, .astore 5, 2), (46, .iconst (-1), 1), (47, .istore 6, 2), (49, .iconst (-1), 1), (50, .istore 7, 2), (52, .iload_n 1, 1), (53, .istore 8, 2), (55, .iload 8, 2), (57, .iload_n 2, 1), (58, .if_icmp .ge 35, 3), (61, .aload_n 0, 1), (62, .aload 5, 2), (64, .iload 8, 2), (66, .iload_n 3, 1), (67, .invokevirtual 246, 3), (70, .istore 9, 2), (72, .iload 9, 2), (74, .iload 7, 2), (76, .if_icmp .le 11, 3), (79, .iload 8, 2), (81, .istore 6, 2), (83, .iload 9, 2), (85, .istore 7, 2), (87, .iinc 8 1, 3), (90, .goto (-35), 3), (93, .iload 4, 2), (95, .ifCond .ne 8, 3), (98, .iload 6, 2), (100, .goto 5, 3), (103, .iload 7, 2), (105, .ireturn, 1)]
theorem da_cX4_swings_0 : dk_all cX4_swings dt_cX4_swings_0 = true := by decide +kernel
theorem dX4_swings_0 : decode cX4_swings 0 = .ok (.aload_n 0, 1) := dk_get _ da_cX4_swings_0 0 _ _ _ rfl
theorem dX4_swings_1 : decode cX4_swings 1 = .ok (.getfield 12, 3) := dk_get _ da_cX4_swings_0 1 _ _ _ rfl
theorem dX4_swings_4 : decode cX4_swings 4 = .ok (.iload_n 1, 1) := dk_get _ da_cX4_swings_0 2 _ _ _ rfl
theorem dX4_swings_5 : decode cX4_swings 5 = .ok (.iload_n 2, 1) := dk_get _ da_cX4_swings_0 3 _ _ _ rfl
theorem dX4_swings_6 : decode cX4_swings 6 = .ok (.invokevirtual 79, 3) := dk_get _ da_cX4_swings_0 4 _ _ _ rfl
theorem dX4_swings_9 : decode cX4_swings 9 = .ok (.ifCond .eq 29, 3) := dk_get _ da_cX4_swings_0 5 _ _ _ rfl
theorem dX4_swings_12 : decode cX4_swings 12 = .ok (.iload_n 2, 1) := dk_get _ da_cX4_swings_0 6 _ _ _ rfl
theorem dX4_swings_13 : decode cX4_swings 13 = .ok (.iload_n 1, 1) := dk_get _ da_cX4_swings_0 7 _ _ _ rfl
theorem dX4_swings_14 : decode cX4_swings 14 = .ok (.isub, 1) := dk_get _ da_cX4_swings_0 8 _ _ _ rfl
theorem dX4_swings_15 : decode cX4_swings 15 = .ok (.bipush 40, 2) := dk_get _ da_cX4_swings_0 9 _ _ _ rfl
theorem dX4_swings_17 : decode cX4_swings 17 = .ok (.if_icmp .gt 21, 3) := dk_get _ da_cX4_swings_0 10 _ _ _ rfl
theorem dX4_swings_20 : decode cX4_swings 20 = .ok (.iload_n 3, 1) := dk_get _ da_cX4_swings_0 11 _ _ _ rfl
theorem dX4_swings_21 : decode cX4_swings 21 = .ok (.invokestatic 68, 3) := dk_get _ da_cX4_swings_0 12 _ _ _ rfl
theorem dX4_swings_24 : decode cX4_swings 24 = .ok (.ifCond .eq 14, 3) := dk_get _ da_cX4_swings_0 13 _ _ _ rfl
theorem dX4_swings_27 : decode cX4_swings 27 = .ok (.iload 4, 2) := dk_get _ da_cX4_swings_0 14 _ _ _ rfl
theorem dX4_swings_29 : decode cX4_swings 29 = .ok (.ifCond .lt 9, 3) := dk_get _ da_cX4_swings_0 15 _ _ _ rfl
theorem dX4_swings_32 : decode cX4_swings 32 = .ok (.iload 4, 2) := dk_get _ da_cX4_swings_0 16 _ _ _ rfl
theorem dX4_swings_34 : decode cX4_swings 34 = .ok (.iconst 1, 1) := dk_get _ da_cX4_swings_0 17 _ _ _ rfl
theorem dX4_swings_35 : decode cX4_swings 35 = .ok (.if_icmp .le 5, 3) := dk_get _ da_cX4_swings_0 18 _ _ _ rfl
theorem dX4_swings_38 : decode cX4_swings 38 = .ok (.iconst (-1), 1) := dk_get _ da_cX4_swings_0 19 _ _ _ rfl
theorem dX4_swings_39 : decode cX4_swings 39 = .ok (.ireturn, 1) := dk_get _ da_cX4_swings_0 20 _ _ _ rfl
theorem dX4_swings_40 : decode cX4_swings 40 = .ok (.aload_n 0, 1) := dk_get _ da_cX4_swings_0 21 _ _ _ rfl
theorem dX4_swings_41 : decode cX4_swings 41 = .ok (.invokevirtual 71, 3) := dk_get _ da_cX4_swings_0 22 _ _ _ rfl
theorem dX4_swings_44 : decode cX4_swings 44 = .ok (.astore 5, 2) := dk_get _ da_cX4_swings_0 23 _ _ _ rfl
theorem dX4_swings_46 : decode cX4_swings 46 = .ok (.iconst (-1), 1) := dk_get _ da_cX4_swings_0 24 _ _ _ rfl
theorem dX4_swings_47 : decode cX4_swings 47 = .ok (.istore 6, 2) := dk_get _ da_cX4_swings_0 25 _ _ _ rfl
theorem dX4_swings_49 : decode cX4_swings 49 = .ok (.iconst (-1), 1) := dk_get _ da_cX4_swings_0 26 _ _ _ rfl
theorem dX4_swings_50 : decode cX4_swings 50 = .ok (.istore 7, 2) := dk_get _ da_cX4_swings_0 27 _ _ _ rfl
theorem dX4_swings_52 : decode cX4_swings 52 = .ok (.iload_n 1, 1) := dk_get _ da_cX4_swings_0 28 _ _ _ rfl
theorem dX4_swings_53 : decode cX4_swings 53 = .ok (.istore 8, 2) := dk_get _ da_cX4_swings_0 29 _ _ _ rfl
theorem dX4_swings_55 : decode cX4_swings 55 = .ok (.iload 8, 2) := dk_get _ da_cX4_swings_0 30 _ _ _ rfl
theorem dX4_swings_57 : decode cX4_swings 57 = .ok (.iload_n 2, 1) := dk_get _ da_cX4_swings_0 31 _ _ _ rfl
theorem dX4_swings_58 : decode cX4_swings 58 = .ok (.if_icmp .ge 35, 3) := dk_get _ da_cX4_swings_0 32 _ _ _ rfl
theorem dX4_swings_61 : decode cX4_swings 61 = .ok (.aload_n 0, 1) := dk_get _ da_cX4_swings_0 33 _ _ _ rfl
theorem dX4_swings_62 : decode cX4_swings 62 = .ok (.aload 5, 2) := dk_get _ da_cX4_swings_0 34 _ _ _ rfl
theorem dX4_swings_64 : decode cX4_swings 64 = .ok (.iload 8, 2) := dk_get _ da_cX4_swings_0 35 _ _ _ rfl
theorem dX4_swings_66 : decode cX4_swings 66 = .ok (.iload_n 3, 1) := dk_get _ da_cX4_swings_0 36 _ _ _ rfl
theorem dX4_swings_67 : decode cX4_swings 67 = .ok (.invokevirtual 246, 3) := dk_get _ da_cX4_swings_0 37 _ _ _ rfl
theorem dX4_swings_70 : decode cX4_swings 70 = .ok (.istore 9, 2) := dk_get _ da_cX4_swings_0 38 _ _ _ rfl
theorem dX4_swings_72 : decode cX4_swings 72 = .ok (.iload 9, 2) := dk_get _ da_cX4_swings_0 39 _ _ _ rfl
theorem dX4_swings_74 : decode cX4_swings 74 = .ok (.iload 7, 2) := dk_get _ da_cX4_swings_0 40 _ _ _ rfl
theorem dX4_swings_76 : decode cX4_swings 76 = .ok (.if_icmp .le 11, 3) := dk_get _ da_cX4_swings_0 41 _ _ _ rfl
theorem dX4_swings_79 : decode cX4_swings 79 = .ok (.iload 8, 2) := dk_get _ da_cX4_swings_0 42 _ _ _ rfl
theorem dX4_swings_81 : decode cX4_swings 81 = .ok (.istore 6, 2) := dk_get _ da_cX4_swings_0 43 _ _ _ rfl
theorem dX4_swings_83 : decode cX4_swings 83 = .ok (.iload 9, 2) := dk_get _ da_cX4_swings_0 44 _ _ _ rfl
theorem dX4_swings_85 : decode cX4_swings 85 = .ok (.istore 7, 2) := dk_get _ da_cX4_swings_0 45 _ _ _ rfl
theorem dX4_swings_87 : decode cX4_swings 87 = .ok (.iinc 8 1, 3) := dk_get _ da_cX4_swings_0 46 _ _ _ rfl
theorem dX4_swings_90 : decode cX4_swings 90 = .ok (.goto (-35), 3) := dk_get _ da_cX4_swings_0 47 _ _ _ rfl
theorem dX4_swings_93 : decode cX4_swings 93 = .ok (.iload 4, 2) := dk_get _ da_cX4_swings_0 48 _ _ _ rfl
theorem dX4_swings_95 : decode cX4_swings 95 = .ok (.ifCond .ne 8, 3) := dk_get _ da_cX4_swings_0 49 _ _ _ rfl
theorem dX4_swings_98 : decode cX4_swings 98 = .ok (.iload 6, 2) := dk_get _ da_cX4_swings_0 50 _ _ _ rfl
theorem dX4_swings_100 : decode cX4_swings 100 = .ok (.goto 5, 3) := dk_get _ da_cX4_swings_0 51 _ _ _ rfl
theorem dX4_swings_103 : decode cX4_swings 103 = .ok (.iload 7, 2) := dk_get _ da_cX4_swings_0 52 _ _ _ rfl
theorem dX4_swings_105 : decode cX4_swings 105 = .ok (.ireturn, 1) := dk_get _ da_cX4_swings_0 53 _ _ _ rfl
set_option maxRecDepth 20000 in
theorem ggX4_told_X4_laidTree : GoodIn wsX4_told wsX4_laidTree := goodIn_r _ [10, 11, 12, 3, 13, 1, 2, 14, 15, 16, 17, 18, 19, 20, 21, 22, 23, 24, 25, 26, 27, 28, 29, 30, 31, 32, 33, 34, 35, 36, 37, 38, 39, 40, 41, 42, 43, 44, 45, 46, 47, 48, 49, 50, 51, 52, 53, 54, 55, 56, 57, 58, 59, 60, 61, 62, 63, 64, 65, 66, 67, 68, 69, 70, 71, 72, 73, 74, 75, 76, 77, 78, 79, 80, 81, 82, 83, 84, 85, 86, 87, 88, 89, 90, 91, 92, 93, 94, 95, 96, 97, 98, 125, 126, 127, 128, 129, 130, 131, 132, 133, 136, 137, 138, 139, 140, 141, 142, 143, 144, 145, 146, 134, 135, 147, 148, 149, 150, 151] rfl (by decide +kernel)
set_option maxRecDepth 20000 in
theorem gX4_told_X4_laidTree : GoodIn wsX4_told (wsV RX4 71 RX4 yX4_laidTree wsX4_laidTree) := goodIn_app (goodIn_r _ [6, 7, 8, 9] rfl (by decide +kernel)) ggX4_told_X4_laidTree
set_option maxRecDepth 20000 in
theorem ggX4_told_X2_nodesWithMajority : GoodIn wsX4_told wsX2_nodesWithMajority := goodIn_r _ [102, 21, 19, 22, 23, 103, 104, 105, 106, 107, 108, 109, 110, 111, 112, 113, 114, 115, 9, 116, 136, 137, 138, 139, 140, 141, 142, 143, 144, 145, 146, 134, 135] rfl (by decide +kernel)
set_option maxRecDepth 20000 in
theorem gX4_told_X2_nodesWithMajority : GoodIn wsX4_told (wsV RX4 250 RX2 yX2_nodesWithMajority wsX2_nodesWithMajority) := goodIn_app (goodIn_r _ [99, 100, 101, 17] rfl (by decide +kernel)) ggX4_told_X2_nodesWithMajority
set_option maxRecDepth 20000 in
theorem ggX4_told_X2_deepest : GoodIn wsX4_told wsX2_deepest := goodIn_r _ [120, 21, 19, 20, 136, 137, 138, 139, 140, 141, 142, 143, 144, 145, 146, 134, 135] rfl (by decide +kernel)
set_option maxRecDepth 20000 in
theorem gX4_told_X2_deepest : GoodIn wsX4_told (wsV RX4 253 RX2 yX2_deepest wsX2_deepest) := goodIn_app (goodIn_r _ [117, 118, 119, 17] rfl (by decide +kernel)) ggX4_told_X2_deepest
set_option maxRecDepth 20000 in
theorem ggX4_told_X2_allLosses : GoodIn wsX4_told wsX2_allLosses := goodIn_r _ [124, 21, 65, 136, 137, 138, 139, 140, 141, 142, 143, 144, 145, 146] rfl (by decide +kernel)
set_option maxRecDepth 20000 in
theorem gX4_told_X2_allLosses : GoodIn wsX4_told (wsV RX4 256 RX2 yX2_allLosses wsX2_allLosses) := goodIn_app (goodIn_r _ [121, 122, 123, 17] rfl (by decide +kernel)) ggX4_told_X2_allLosses
def dt_cX4_told_0 : List (Nat × Instr × Nat) := [(0, .iload_n 1, 1), (1, .tableswitch 112 0 6 #[43, 51, 56, 64, 72, 80, 104], 43), (44, .aload_n 0, 1), (45, .getfield 12, 3), (48, .getfield 57, 3), (51, .ireturn, 1), (52, .aload_n 0, 1), (53, .getfield 49, 3), (56, .ireturn, 1), (57, .aload_n 0, 1), (58, .invokevirtual 71, 3), (61, .getfield 163, 3), (64, .ireturn, 1), (65, .aload_n 0, 1), (66, .invokevirtual 71, 3), (69, .invokevirtual 250, 3), (72, .ireturn, 1), (73, .aload_n 0, 1), (74, .invokevirtual 71, 3), (77, .invokevirtual 253, 3), (80, .ireturn, 1), (81, .aload_n 0, 1), (82, .getfield 12, 3), (85, .getfield 57, 3), (88, .ifCond .ne 7, 3), (91, .iconst 0, 1), (92, .goto 12, 3), (95, .aload_n 0, 1), (96, .invokevirtual 71, 3), (99, .getfield 139, 3), (102, .iconst 0, 1), (103, .iaload, 1), (104, .ireturn, 1), (105, .aload_n 0, 1), (106, .invokevirtual 71, 3), (109, .invokevirtual 256, 3), (112, .ireturn, 1), (113, .iconst (-1), 1), (114, .ireturn, 1)]
theorem da_cX4_told_0 : dk_all cX4_told dt_cX4_told_0 = true := by decide +kernel
theorem dX4_told_0 : decode cX4_told 0 = .ok (.iload_n 1, 1) := dk_get _ da_cX4_told_0 0 _ _ _ rfl
theorem dX4_told_1 : decode cX4_told 1 = .ok (.tableswitch 112 0 6 #[43, 51, 56, 64, 72, 80, 104], 43) := dk_get _ da_cX4_told_0 1 _ _ _ rfl
theorem dX4_told_44 : decode cX4_told 44 = .ok (.aload_n 0, 1) := dk_get _ da_cX4_told_0 2 _ _ _ rfl
theorem dX4_told_45 : decode cX4_told 45 = .ok (.getfield 12, 3) := dk_get _ da_cX4_told_0 3 _ _ _ rfl
theorem dX4_told_48 : decode cX4_told 48 = .ok (.getfield 57, 3) := dk_get _ da_cX4_told_0 4 _ _ _ rfl
theorem dX4_told_51 : decode cX4_told 51 = .ok (.ireturn, 1) := dk_get _ da_cX4_told_0 5 _ _ _ rfl
theorem dX4_told_52 : decode cX4_told 52 = .ok (.aload_n 0, 1) := dk_get _ da_cX4_told_0 6 _ _ _ rfl
theorem dX4_told_53 : decode cX4_told 53 = .ok (.getfield 49, 3) := dk_get _ da_cX4_told_0 7 _ _ _ rfl
theorem dX4_told_56 : decode cX4_told 56 = .ok (.ireturn, 1) := dk_get _ da_cX4_told_0 8 _ _ _ rfl
theorem dX4_told_57 : decode cX4_told 57 = .ok (.aload_n 0, 1) := dk_get _ da_cX4_told_0 9 _ _ _ rfl
theorem dX4_told_58 : decode cX4_told 58 = .ok (.invokevirtual 71, 3) := dk_get _ da_cX4_told_0 10 _ _ _ rfl
theorem dX4_told_61 : decode cX4_told 61 = .ok (.getfield 163, 3) := dk_get _ da_cX4_told_0 11 _ _ _ rfl
theorem dX4_told_64 : decode cX4_told 64 = .ok (.ireturn, 1) := dk_get _ da_cX4_told_0 12 _ _ _ rfl
theorem dX4_told_65 : decode cX4_told 65 = .ok (.aload_n 0, 1) := dk_get _ da_cX4_told_0 13 _ _ _ rfl
theorem dX4_told_66 : decode cX4_told 66 = .ok (.invokevirtual 71, 3) := dk_get _ da_cX4_told_0 14 _ _ _ rfl
theorem dX4_told_69 : decode cX4_told 69 = .ok (.invokevirtual 250, 3) := dk_get _ da_cX4_told_0 15 _ _ _ rfl
theorem dX4_told_72 : decode cX4_told 72 = .ok (.ireturn, 1) := dk_get _ da_cX4_told_0 16 _ _ _ rfl
theorem dX4_told_73 : decode cX4_told 73 = .ok (.aload_n 0, 1) := dk_get _ da_cX4_told_0 17 _ _ _ rfl
theorem dX4_told_74 : decode cX4_told 74 = .ok (.invokevirtual 71, 3) := dk_get _ da_cX4_told_0 18 _ _ _ rfl
theorem dX4_told_77 : decode cX4_told 77 = .ok (.invokevirtual 253, 3) := dk_get _ da_cX4_told_0 19 _ _ _ rfl
theorem dX4_told_80 : decode cX4_told 80 = .ok (.ireturn, 1) := dk_get _ da_cX4_told_0 20 _ _ _ rfl
theorem dX4_told_81 : decode cX4_told 81 = .ok (.aload_n 0, 1) := dk_get _ da_cX4_told_0 21 _ _ _ rfl
theorem dX4_told_82 : decode cX4_told 82 = .ok (.getfield 12, 3) := dk_get _ da_cX4_told_0 22 _ _ _ rfl
theorem dX4_told_85 : decode cX4_told 85 = .ok (.getfield 57, 3) := dk_get _ da_cX4_told_0 23 _ _ _ rfl
theorem dX4_told_88 : decode cX4_told 88 = .ok (.ifCond .ne 7, 3) := dk_get _ da_cX4_told_0 24 _ _ _ rfl
theorem dX4_told_91 : decode cX4_told 91 = .ok (.iconst 0, 1) := dk_get _ da_cX4_told_0 25 _ _ _ rfl
theorem dX4_told_92 : decode cX4_told 92 = .ok (.goto 12, 3) := dk_get _ da_cX4_told_0 26 _ _ _ rfl
theorem dX4_told_95 : decode cX4_told 95 = .ok (.aload_n 0, 1) := dk_get _ da_cX4_told_0 27 _ _ _ rfl
theorem dX4_told_96 : decode cX4_told 96 = .ok (.invokevirtual 71, 3) := dk_get _ da_cX4_told_0 28 _ _ _ rfl
theorem dX4_told_99 : decode cX4_told 99 = .ok (.getfield 139, 3) := dk_get _ da_cX4_told_0 29 _ _ _ rfl
theorem dX4_told_102 : decode cX4_told 102 = .ok (.iconst 0, 1) := dk_get _ da_cX4_told_0 30 _ _ _ rfl
theorem dX4_told_103 : decode cX4_told 103 = .ok (.iaload, 1) := dk_get _ da_cX4_told_0 31 _ _ _ rfl
theorem dX4_told_104 : decode cX4_told 104 = .ok (.ireturn, 1) := dk_get _ da_cX4_told_0 32 _ _ _ rfl
theorem dX4_told_105 : decode cX4_told 105 = .ok (.aload_n 0, 1) := dk_get _ da_cX4_told_0 33 _ _ _ rfl
theorem dX4_told_106 : decode cX4_told 106 = .ok (.invokevirtual 71, 3) := dk_get _ da_cX4_told_0 34 _ _ _ rfl
theorem dX4_told_109 : decode cX4_told 109 = .ok (.invokevirtual 256, 3) := dk_get _ da_cX4_told_0 35 _ _ _ rfl
theorem dX4_told_112 : decode cX4_told 112 = .ok (.ireturn, 1) := dk_get _ da_cX4_told_0 36 _ _ _ rfl
theorem dX4_told_113 : decode cX4_told 113 = .ok (.iconst (-1), 1) := dk_get _ da_cX4_told_0 37 _ _ _ rfl
theorem dX4_told_114 : decode cX4_told 114 = .ok (.ireturn, 1) := dk_get _ da_cX4_told_0 38 _ _ _ rfl
set_option maxRecDepth 20000 in
theorem ggX4_overwrite_X2_renew : GoodIn wsX4_overwrite wsX2_renew := goodIn_r _ [7, 8, 9, 10, 11, 12, 13, 6, 14, 15, 16, 17, 18, 19, 20, 21, 22, 23, 24, 25, 26, 27, 28, 29, 30, 31, 32, 33, 34, 35, 36, 37, 38, 39, 40, 41, 42, 43, 44, 45, 46, 47, 48, 49, 50, 51, 52, 53, 54, 55, 56, 57, 58, 59, 60, 61, 62, 63, 64, 65, 66, 67, 68, 69, 70, 71, 72, 73, 74, 75, 76, 77, 78, 90, 91, 92, 93, 94, 95, 96, 97, 98, 99, 100, 88, 89, 101, 102, 103, 104, 105] rfl (by decide +kernel)
set_option maxRecDepth 20000 in
theorem gX4_overwrite_X2_renew : GoodIn wsX4_overwrite (wsV RX4 87 RX2 yX2_renew wsX2_renew) := goodIn_app (goodIn_r _ [3, 4, 5, 6] rfl (by decide +kernel)) ggX4_overwrite_X2_renew
def dt_cX4_overwrite_0 : List (Nat × Instr × Nat) := [(0, .iload_n 2, 1), (1, .istore 5, 2), (3, .iload 5, 2), (5, .iload_n 3, 1), (6, .if_icmp .ge 21, 3), (9, .aload_n 0, 1), (10, .getfield 12, 3), (13, .getfield 110, 3), (16, .iload 5, 2), (18, .iload 4, 2), (20, .iastore, 1), (21, .iinc 5 1, 3), (24, .goto (-21), 3), (27, .aload_n 1, 1), (28, .iload_n 2, 1), (29, .iload_n 3, 1), (30, .invokevirtual 87, 3), (33, .ireturn, 1)]
theorem da_cX4_overwrite_0 : dk_all cX4_overwrite dt_cX4_overwrite_0 = true := by decide +kernel
theorem dX4_overwrite_0 : decode cX4_overwrite 0 = .ok (.iload_n 2, 1) := dk_get _ da_cX4_overwrite_0 0 _ _ _ rfl
theorem dX4_overwrite_1 : decode cX4_overwrite 1 = .ok (.istore 5, 2) := dk_get _ da_cX4_overwrite_0 1 _ _ _ rfl
theorem dX4_overwrite_3 : decode cX4_overwrite 3 = .ok (.iload 5, 2) := dk_get _ da_cX4_overwrite_0 2 _ _ _ rfl
theorem dX4_overwrite_5 : decode cX4_overwrite 5 = .ok (.iload_n 3, 1) := dk_get _ da_cX4_overwrite_0 3 _ _ _ rfl
theorem dX4_overwrite_6 : decode cX4_overwrite 6 = .ok (.if_icmp .ge 21, 3) := dk_get _ da_cX4_overwrite_0 4 _ _ _ rfl
theorem dX4_overwrite_9 : decode cX4_overwrite 9 = .ok (.aload_n 0, 1) := dk_get _ da_cX4_overwrite_0 5 _ _ _ rfl
theorem dX4_overwrite_10 : decode cX4_overwrite 10 = .ok (.getfield 12, 3) := dk_get _ da_cX4_overwrite_0 6 _ _ _ rfl
theorem dX4_overwrite_13 : decode cX4_overwrite 13 = .ok (.getfield 110, 3) := dk_get _ da_cX4_overwrite_0 7 _ _ _ rfl
theorem dX4_overwrite_16 : decode cX4_overwrite 16 = .ok (.iload 5, 2) := dk_get _ da_cX4_overwrite_0 8 _ _ _ rfl
theorem dX4_overwrite_18 : decode cX4_overwrite 18 = .ok (.iload 4, 2) := dk_get _ da_cX4_overwrite_0 9 _ _ _ rfl
theorem dX4_overwrite_20 : decode cX4_overwrite 20 = .ok (.iastore, 1) := dk_get _ da_cX4_overwrite_0 10 _ _ _ rfl
theorem dX4_overwrite_21 : decode cX4_overwrite 21 = .ok (.iinc 5 1, 3) := dk_get _ da_cX4_overwrite_0 11 _ _ _ rfl
theorem dX4_overwrite_24 : decode cX4_overwrite 24 = .ok (.goto (-21), 3) := dk_get _ da_cX4_overwrite_0 12 _ _ _ rfl
theorem dX4_overwrite_27 : decode cX4_overwrite 27 = .ok (.aload_n 1, 1) := dk_get _ da_cX4_overwrite_0 13 _ _ _ rfl
theorem dX4_overwrite_28 : decode cX4_overwrite 28 = .ok (.iload_n 2, 1) := dk_get _ da_cX4_overwrite_0 14 _ _ _ rfl
theorem dX4_overwrite_29 : decode cX4_overwrite 29 = .ok (.iload_n 3, 1) := dk_get _ da_cX4_overwrite_0 15 _ _ _ rfl
theorem dX4_overwrite_30 : decode cX4_overwrite 30 = .ok (.invokevirtual 87, 3) := dk_get _ da_cX4_overwrite_0 16 _ _ _ rfl
theorem dX4_overwrite_33 : decode cX4_overwrite 33 = .ok (.ireturn, 1) := dk_get _ da_cX4_overwrite_0 17 _ _ _ rfl
set_option maxRecDepth 20000 in
theorem ggX4_refusalOfBoth_X0_hasRange : GoodIn wsX4_refusalOfBoth wsX0_hasRange := goodIn_r _ [6, 7, 26, 27] rfl (by decide +kernel)
set_option maxRecDepth 20000 in
theorem gX4_refusalOfBoth_X0_hasRange : GoodIn wsX4_refusalOfBoth (wsV RX4 79 RX0 yX0_hasRange wsX0_hasRange) := goodIn_app (goodIn_r _ [2, 3, 4, 5] rfl (by decide +kernel)) ggX4_refusalOfBoth_X0_hasRange
set_option maxRecDepth 20000 in
theorem ggX4_refusalOfBoth_X4_isShare : GoodIn wsX4_refusalOfBoth wsX4_isShare := goodIn_r _ [11] rfl (by decide +kernel)
set_option maxRecDepth 20000 in
theorem gX4_refusalOfBoth_X4_isShare : GoodIn wsX4_refusalOfBoth (va_wsS RX4 186 yX4_isShare wsX4_isShare) := goodIn_app (goodIn_r _ [8, 9, 10] rfl (by decide +kernel)) ggX4_refusalOfBoth_X4_isShare
set_option maxRecDepth 20000 in
theorem ggX4_refusalOfBoth_X4_isEnough : GoodIn wsX4_refusalOfBoth wsX4_isEnough := goodIn_r _ [15, 16, 17, 18, 19, 20, 21, 22, 23, 24, 25] rfl (by decide +kernel)
set_option maxRecDepth 20000 in
theorem gX4_refusalOfBoth_X4_isEnough : GoodIn wsX4_refusalOfBoth (wsV RX4 189 RX4 yX4_isEnough wsX4_isEnough) := goodIn_app (goodIn_r _ [12, 13, 14, 10] rfl (by decide +kernel)) ggX4_refusalOfBoth_X4_isEnough
def dt_cX4_refusalOfBoth_0 : List (Nat × Instr × Nat) := [(0, .aload_n 0, 1), (1, .getfield 12, 3), (4, .iload_n 1, 1), (5, .iload_n 2, 1), (6, .invokevirtual 79, 3), (9, .ifCond .eq 26, 3), (12, .aload_n 0, 1), (13, .getfield 12, 3), (16, .iload_n 3, 1), (17, .iload 4, 2), (19, .invokevirtual 79, 3), (22, .ifCond .eq 13, 3), (25, .iload 5, 2), (27, .iload 6, 2), (29, .invokestatic 186, 3), (32, .ifCond .ne 5, 3), (35, .iconst (-1), 1), (36, .ireturn, 1), (37, .aload_n 0, 1), (38, .iload 5, 2), (40, .iload 6, 2), (42, .invokevirtual 189, 3), (45, .ifCond .ne 6, 3), (48, .bipush (-2), 2), (50, .ireturn, 1), (51, .iload_n 1, 1), (52, .iload 4, 2), (54, .if_icmp .ge 13, 3), (57, .iload_n 3, 1), (58, .iload_n 2, 1), (59, .if_icmp .ge 8, 3), (62, .bipush (-3), 2), (64, .goto 4, 3), (67, .iconst 0, 1), (68, .ireturn, 1)]
theorem da_cX4_refusalOfBoth_0 : dk_all cX4_refusalOfBoth dt_cX4_refusalOfBoth_0 = true := by decide +kernel
theorem dX4_refusalOfBoth_0 : decode cX4_refusalOfBoth 0 = .ok (.aload_n 0, 1) := dk_get _ da_cX4_refusalOfBoth_0 0 _ _ _ rfl
theorem dX4_refusalOfBoth_1 : decode cX4_refusalOfBoth 1 = .ok (.getfield 12, 3) := dk_get _ da_cX4_refusalOfBoth_0 1 _ _ _ rfl
theorem dX4_refusalOfBoth_4 : decode cX4_refusalOfBoth 4 = .ok (.iload_n 1, 1) := dk_get _ da_cX4_refusalOfBoth_0 2 _ _ _ rfl
theorem dX4_refusalOfBoth_5 : decode cX4_refusalOfBoth 5 = .ok (.iload_n 2, 1) := dk_get _ da_cX4_refusalOfBoth_0 3 _ _ _ rfl
theorem dX4_refusalOfBoth_6 : decode cX4_refusalOfBoth 6 = .ok (.invokevirtual 79, 3) := dk_get _ da_cX4_refusalOfBoth_0 4 _ _ _ rfl
theorem dX4_refusalOfBoth_9 : decode cX4_refusalOfBoth 9 = .ok (.ifCond .eq 26, 3) := dk_get _ da_cX4_refusalOfBoth_0 5 _ _ _ rfl
theorem dX4_refusalOfBoth_12 : decode cX4_refusalOfBoth 12 = .ok (.aload_n 0, 1) := dk_get _ da_cX4_refusalOfBoth_0 6 _ _ _ rfl
theorem dX4_refusalOfBoth_13 : decode cX4_refusalOfBoth 13 = .ok (.getfield 12, 3) := dk_get _ da_cX4_refusalOfBoth_0 7 _ _ _ rfl
theorem dX4_refusalOfBoth_16 : decode cX4_refusalOfBoth 16 = .ok (.iload_n 3, 1) := dk_get _ da_cX4_refusalOfBoth_0 8 _ _ _ rfl
theorem dX4_refusalOfBoth_17 : decode cX4_refusalOfBoth 17 = .ok (.iload 4, 2) := dk_get _ da_cX4_refusalOfBoth_0 9 _ _ _ rfl
theorem dX4_refusalOfBoth_19 : decode cX4_refusalOfBoth 19 = .ok (.invokevirtual 79, 3) := dk_get _ da_cX4_refusalOfBoth_0 10 _ _ _ rfl
theorem dX4_refusalOfBoth_22 : decode cX4_refusalOfBoth 22 = .ok (.ifCond .eq 13, 3) := dk_get _ da_cX4_refusalOfBoth_0 11 _ _ _ rfl
theorem dX4_refusalOfBoth_25 : decode cX4_refusalOfBoth 25 = .ok (.iload 5, 2) := dk_get _ da_cX4_refusalOfBoth_0 12 _ _ _ rfl
theorem dX4_refusalOfBoth_27 : decode cX4_refusalOfBoth 27 = .ok (.iload 6, 2) := dk_get _ da_cX4_refusalOfBoth_0 13 _ _ _ rfl
theorem dX4_refusalOfBoth_29 : decode cX4_refusalOfBoth 29 = .ok (.invokestatic 186, 3) := dk_get _ da_cX4_refusalOfBoth_0 14 _ _ _ rfl
theorem dX4_refusalOfBoth_32 : decode cX4_refusalOfBoth 32 = .ok (.ifCond .ne 5, 3) := dk_get _ da_cX4_refusalOfBoth_0 15 _ _ _ rfl
theorem dX4_refusalOfBoth_35 : decode cX4_refusalOfBoth 35 = .ok (.iconst (-1), 1) := dk_get _ da_cX4_refusalOfBoth_0 16 _ _ _ rfl
theorem dX4_refusalOfBoth_36 : decode cX4_refusalOfBoth 36 = .ok (.ireturn, 1) := dk_get _ da_cX4_refusalOfBoth_0 17 _ _ _ rfl
theorem dX4_refusalOfBoth_37 : decode cX4_refusalOfBoth 37 = .ok (.aload_n 0, 1) := dk_get _ da_cX4_refusalOfBoth_0 18 _ _ _ rfl
theorem dX4_refusalOfBoth_38 : decode cX4_refusalOfBoth 38 = .ok (.iload 5, 2) := dk_get _ da_cX4_refusalOfBoth_0 19 _ _ _ rfl
theorem dX4_refusalOfBoth_40 : decode cX4_refusalOfBoth 40 = .ok (.iload 6, 2) := dk_get _ da_cX4_refusalOfBoth_0 20 _ _ _ rfl
theorem dX4_refusalOfBoth_42 : decode cX4_refusalOfBoth 42 = .ok (.invokevirtual 189, 3) := dk_get _ da_cX4_refusalOfBoth_0 21 _ _ _ rfl
theorem dX4_refusalOfBoth_45 : decode cX4_refusalOfBoth 45 = .ok (.ifCond .ne 6, 3) := dk_get _ da_cX4_refusalOfBoth_0 22 _ _ _ rfl
theorem dX4_refusalOfBoth_48 : decode cX4_refusalOfBoth 48 = .ok (.bipush (-2), 2) := dk_get _ da_cX4_refusalOfBoth_0 23 _ _ _ rfl
theorem dX4_refusalOfBoth_50 : decode cX4_refusalOfBoth 50 = .ok (.ireturn, 1) := dk_get _ da_cX4_refusalOfBoth_0 24 _ _ _ rfl
theorem dX4_refusalOfBoth_51 : decode cX4_refusalOfBoth 51 = .ok (.iload_n 1, 1) := dk_get _ da_cX4_refusalOfBoth_0 25 _ _ _ rfl
theorem dX4_refusalOfBoth_52 : decode cX4_refusalOfBoth 52 = .ok (.iload 4, 2) := dk_get _ da_cX4_refusalOfBoth_0 26 _ _ _ rfl
theorem dX4_refusalOfBoth_54 : decode cX4_refusalOfBoth 54 = .ok (.if_icmp .ge 13, 3) := dk_get _ da_cX4_refusalOfBoth_0 27 _ _ _ rfl
theorem dX4_refusalOfBoth_57 : decode cX4_refusalOfBoth 57 = .ok (.iload_n 3, 1) := dk_get _ da_cX4_refusalOfBoth_0 28 _ _ _ rfl
theorem dX4_refusalOfBoth_58 : decode cX4_refusalOfBoth 58 = .ok (.iload_n 2, 1) := dk_get _ da_cX4_refusalOfBoth_0 29 _ _ _ rfl
theorem dX4_refusalOfBoth_59 : decode cX4_refusalOfBoth 59 = .ok (.if_icmp .ge 8, 3) := dk_get _ da_cX4_refusalOfBoth_0 30 _ _ _ rfl
theorem dX4_refusalOfBoth_62 : decode cX4_refusalOfBoth 62 = .ok (.bipush (-3), 2) := dk_get _ da_cX4_refusalOfBoth_0 31 _ _ _ rfl
theorem dX4_refusalOfBoth_64 : decode cX4_refusalOfBoth 64 = .ok (.goto 4, 3) := dk_get _ da_cX4_refusalOfBoth_0 32 _ _ _ rfl
theorem dX4_refusalOfBoth_67 : decode cX4_refusalOfBoth 67 = .ok (.iconst 0, 1) := dk_get _ da_cX4_refusalOfBoth_0 33 _ _ _ rfl
theorem dX4_refusalOfBoth_68 : decode cX4_refusalOfBoth 68 = .ok (.ireturn, 1) := dk_get _ da_cX4_refusalOfBoth_0 34 _ _ _ rfl
set_option maxRecDepth 20000 in
theorem ggX4_gatherHeavyOfBoth_X2_gather : GoodIn wsX4_gatherHeavyOfBoth wsX2_gather := goodIn_r _ [19, 20, 21, 22, 23, 24, 25, 26, 27, 28, 29, 30, 31, 32, 33, 18, 34, 35, 36, 37, 38, 39, 40, 41, 42, 43, 44, 45, 46, 47, 48, 49, 50, 51, 52, 53, 54, 55, 56, 57, 58, 59, 60, 61, 62, 63, 64, 65, 66, 100, 101, 102, 103, 104, 105, 106, 107, 108, 109, 110, 95, 96, 97, 98, 99] rfl (by decide +kernel)
set_option maxRecDepth 20000 in
theorem gX4_gatherHeavyOfBoth_X2_gather : GoodIn wsX4_gatherHeavyOfBoth (wsV RX4 170 RX2 yX2_gather wsX2_gather) := goodIn_app (goodIn_r _ [15, 16, 17, 18] rfl (by decide +kernel)) ggX4_gatherHeavyOfBoth_X2_gather
set_option maxRecDepth 20000 in
theorem ggX4_gatherHeavyOfBoth_X3_join : GoodIn wsX4_gatherHeavyOfBoth wsX3_join := goodIn_r _ [70, 28, 49, 50, 29, 71, 46, 47, 26, 48, 95, 96, 97, 98, 99] rfl (by decide +kernel)
set_option maxRecDepth 20000 in
theorem gX4_gatherHeavyOfBoth_X3_join : GoodIn wsX4_gatherHeavyOfBoth (wsV RX4 266 RX3 yX3_join wsX3_join) := goodIn_app (goodIn_r _ [67, 68, 69, 26] rfl (by decide +kernel)) ggX4_gatherHeavyOfBoth_X3_join
set_option maxRecDepth 20000 in
theorem ggX4_gatherHeavyOfBoth_X3_cancel : GoodIn wsX4_gatherHeavyOfBoth wsX3_cancel := goodIn_r _ [54, 28, 50, 30, 29, 55, 56, 57, 26, 58, 59, 60, 61, 62, 49, 63, 64, 65, 66, 95, 96, 97, 98, 99] rfl (by decide +kernel)
set_option maxRecDepth 20000 in
theorem gX4_gatherHeavyOfBoth_X3_cancel : GoodIn wsX4_gatherHeavyOfBoth (wsV RX4 270 RX3 yX3_cancel wsX3_cancel) := goodIn_app (goodIn_r _ [72, 52, 53, 26] rfl (by decide +kernel)) ggX4_gatherHeavyOfBoth_X3_cancel
set_option maxRecDepth 20000 in
theorem ggX4_gatherHeavyOfBoth_X0_oftenIn : GoodIn wsX4_gatherHeavyOfBoth wsX0_oftenIn := goodIn_r _ [77, 78, 111, 112] rfl (by decide +kernel)
set_option maxRecDepth 20000 in
theorem gX4_gatherHeavyOfBoth_X0_oftenIn : GoodIn wsX4_gatherHeavyOfBoth (wsV RX4 113 RX0 yX0_oftenIn wsX0_oftenIn) := goodIn_app (goodIn_r _ [73, 74, 75, 76] rfl (by decide +kernel)) ggX4_gatherHeavyOfBoth_X0_oftenIn
set_option maxRecDepth 20000 in
theorem ggX4_gatherHeavyOfBoth_X3_keepHeavy : GoodIn wsX4_gatherHeavyOfBoth wsX3_keepHeavy := goodIn_r _ [82, 28, 50, 83, 84, 85, 63, 64, 65, 26, 66, 49, 55, 56, 57, 58, 59, 60, 61, 62, 95, 96, 97, 98, 99] rfl (by decide +kernel)
set_option maxRecDepth 20000 in
theorem gX4_gatherHeavyOfBoth_X3_keepHeavy : GoodIn wsX4_gatherHeavyOfBoth (wsV RX4 262 RX3 yX3_keepHeavy wsX3_keepHeavy) := goodIn_app (goodIn_r _ [79, 80, 81, 26] rfl (by decide +kernel)) ggX4_gatherHeavyOfBoth_X3_keepHeavy
def dt_cX4_gatherHeavyOfBoth_0 : List (Nat × Instr × Nat) := [(0, .aload_n 1, 1), (1, .aload_n 0, 1), (2, .getfield 35, 3), (5, .iload_n 2, 1), (6, .iload 4, 2), (8, .invokestatic 91, 3), (11, .iload_n 2, 1), (12, .iload 4, 2), (14, .if_icmp .ge 7, 3), (17, .iload_n 3, 1), (18, .goto 5, 3), (21, .iload 5, 2), (23, .invokevirtual 170, 3), (26, .aload_n 1, 1), (27, .aload_n 0, 1), (28, .getfield 39, 3), (31, .iload_n 2, 1), (32, .iload 4, 2), (34, .invokestatic 96, 3), (37, .iload_n 2, 1), (38, .iload 4, 2), (40, .if_icmp .ge 8, 3), (43, .iload 5, 2), (45, .goto 4, 3), (48, .iload_n 3, 1), (49, .invokevirtual 170, 3), (52, .aload_n 0, 1), (53, .getfield 35, 3), (56, .aload_n 0, 1), (57, .getfield 39, 3), (60, .invokevirtual 266, 3), (63, .aload_n 0, 1), (64, .getfield 35, 3), (67, .aload_n 0, 1), (68, .getfield 49, 3), (71, .invokevirtual 270, 3), (74, .iconst 0, 1), (75, .istore 8, 2), (77, .iload 8, 2), (79, .aload_n 0, 1), (80, .getfield 35, 3), (83, .getfield 174, 3), (86, .if_icmp .ge 56, 3), (89, .aload_n 0, 1), (90, .getfield 35, 3), (93, .getfield 133, 3), (96, .iload 8, 2), (98, .iaload, 1), (99, .istore 9, 2), (101, .aload_n 0, 1), (102, .getfield 35, 3), (105, .getfield 136, 3), (108, .iload 8, 2), (110, .aload_n 0, 1), (111, .getfield 12, 3), (114, .iload 9, 2), (116, .iload_n 2, 1), (117, .iload_n 3, 1), (118, .invokevirtual 113, 3), (121, .aload_n 0, 1)]
theorem da_cX4_gatherHeavyOfBoth_0 : dk_all cX4_gatherHeavyOfBoth dt_cX4_gatherHeavyOfBoth_0 = true := by decide +kernel
theorem dX4_gatherHeavyOfBoth_0 : decode cX4_gatherHeavyOfBoth 0 = .ok (.aload_n 1, 1) := dk_get _ da_cX4_gatherHeavyOfBoth_0 0 _ _ _ rfl
theorem dX4_gatherHeavyOfBoth_1 : decode cX4_gatherHeavyOfBoth 1 = .ok (.aload_n 0, 1) := dk_get _ da_cX4_gatherHeavyOfBoth_0 1 _ _ _ rfl
theorem dX4_gatherHeavyOfBoth_2 : decode cX4_gatherHeavyOfBoth 2 = .ok (.getfield 35, 3) := dk_get _ da_cX4_gatherHeavyOfBoth_0 2 _ _ _ rfl
theorem dX4_gatherHeavyOfBoth_5 : decode cX4_gatherHeavyOfBoth 5 = .ok (.iload_n 2, 1) := dk_get _ da_cX4_gatherHeavyOfBoth_0 3 _ _ _ rfl
theorem dX4_gatherHeavyOfBoth_6 : decode cX4_gatherHeavyOfBoth 6 = .ok (.iload 4, 2) := dk_get _ da_cX4_gatherHeavyOfBoth_0 4 _ _ _ rfl
theorem dX4_gatherHeavyOfBoth_8 : decode cX4_gatherHeavyOfBoth 8 = .ok (.invokestatic 91, 3) := dk_get _ da_cX4_gatherHeavyOfBoth_0 5 _ _ _ rfl
theorem dX4_gatherHeavyOfBoth_11 : decode cX4_gatherHeavyOfBoth 11 = .ok (.iload_n 2, 1) := dk_get _ da_cX4_gatherHeavyOfBoth_0 6 _ _ _ rfl
theorem dX4_gatherHeavyOfBoth_12 : decode cX4_gatherHeavyOfBoth 12 = .ok (.iload 4, 2) := dk_get _ da_cX4_gatherHeavyOfBoth_0 7 _ _ _ rfl
theorem dX4_gatherHeavyOfBoth_14 : decode cX4_gatherHeavyOfBoth 14 = .ok (.if_icmp .ge 7, 3) := dk_get _ da_cX4_gatherHeavyOfBoth_0 8 _ _ _ rfl
theorem dX4_gatherHeavyOfBoth_17 : decode cX4_gatherHeavyOfBoth 17 = .ok (.iload_n 3, 1) := dk_get _ da_cX4_gatherHeavyOfBoth_0 9 _ _ _ rfl
theorem dX4_gatherHeavyOfBoth_18 : decode cX4_gatherHeavyOfBoth 18 = .ok (.goto 5, 3) := dk_get _ da_cX4_gatherHeavyOfBoth_0 10 _ _ _ rfl
theorem dX4_gatherHeavyOfBoth_21 : decode cX4_gatherHeavyOfBoth 21 = .ok (.iload 5, 2) := dk_get _ da_cX4_gatherHeavyOfBoth_0 11 _ _ _ rfl
theorem dX4_gatherHeavyOfBoth_23 : decode cX4_gatherHeavyOfBoth 23 = .ok (.invokevirtual 170, 3) := dk_get _ da_cX4_gatherHeavyOfBoth_0 12 _ _ _ rfl
theorem dX4_gatherHeavyOfBoth_26 : decode cX4_gatherHeavyOfBoth 26 = .ok (.aload_n 1, 1) := dk_get _ da_cX4_gatherHeavyOfBoth_0 13 _ _ _ rfl
theorem dX4_gatherHeavyOfBoth_27 : decode cX4_gatherHeavyOfBoth 27 = .ok (.aload_n 0, 1) := dk_get _ da_cX4_gatherHeavyOfBoth_0 14 _ _ _ rfl
theorem dX4_gatherHeavyOfBoth_28 : decode cX4_gatherHeavyOfBoth 28 = .ok (.getfield 39, 3) := dk_get _ da_cX4_gatherHeavyOfBoth_0 15 _ _ _ rfl
theorem dX4_gatherHeavyOfBoth_31 : decode cX4_gatherHeavyOfBoth 31 = .ok (.iload_n 2, 1) := dk_get _ da_cX4_gatherHeavyOfBoth_0 16 _ _ _ rfl
theorem dX4_gatherHeavyOfBoth_32 : decode cX4_gatherHeavyOfBoth 32 = .ok (.iload 4, 2) := dk_get _ da_cX4_gatherHeavyOfBoth_0 17 _ _ _ rfl
theorem dX4_gatherHeavyOfBoth_34 : decode cX4_gatherHeavyOfBoth 34 = .ok (.invokestatic 96, 3) := dk_get _ da_cX4_gatherHeavyOfBoth_0 18 _ _ _ rfl
theorem dX4_gatherHeavyOfBoth_37 : decode cX4_gatherHeavyOfBoth 37 = .ok (.iload_n 2, 1) := dk_get _ da_cX4_gatherHeavyOfBoth_0 19 _ _ _ rfl
theorem dX4_gatherHeavyOfBoth_38 : decode cX4_gatherHeavyOfBoth 38 = .ok (.iload 4, 2) := dk_get _ da_cX4_gatherHeavyOfBoth_0 20 _ _ _ rfl
theorem dX4_gatherHeavyOfBoth_40 : decode cX4_gatherHeavyOfBoth 40 = .ok (.if_icmp .ge 8, 3) := dk_get _ da_cX4_gatherHeavyOfBoth_0 21 _ _ _ rfl
theorem dX4_gatherHeavyOfBoth_43 : decode cX4_gatherHeavyOfBoth 43 = .ok (.iload 5, 2) := dk_get _ da_cX4_gatherHeavyOfBoth_0 22 _ _ _ rfl
theorem dX4_gatherHeavyOfBoth_45 : decode cX4_gatherHeavyOfBoth 45 = .ok (.goto 4, 3) := dk_get _ da_cX4_gatherHeavyOfBoth_0 23 _ _ _ rfl
theorem dX4_gatherHeavyOfBoth_48 : decode cX4_gatherHeavyOfBoth 48 = .ok (.iload_n 3, 1) := dk_get _ da_cX4_gatherHeavyOfBoth_0 24 _ _ _ rfl
theorem dX4_gatherHeavyOfBoth_49 : decode cX4_gatherHeavyOfBoth 49 = .ok (.invokevirtual 170, 3) := dk_get _ da_cX4_gatherHeavyOfBoth_0 25 _ _ _ rfl
theorem dX4_gatherHeavyOfBoth_52 : decode cX4_gatherHeavyOfBoth 52 = .ok (.aload_n 0, 1) := dk_get _ da_cX4_gatherHeavyOfBoth_0 26 _ _ _ rfl
theorem dX4_gatherHeavyOfBoth_53 : decode cX4_gatherHeavyOfBoth 53 = .ok (.getfield 35, 3) := dk_get _ da_cX4_gatherHeavyOfBoth_0 27 _ _ _ rfl
theorem dX4_gatherHeavyOfBoth_56 : decode cX4_gatherHeavyOfBoth 56 = .ok (.aload_n 0, 1) := dk_get _ da_cX4_gatherHeavyOfBoth_0 28 _ _ _ rfl
theorem dX4_gatherHeavyOfBoth_57 : decode cX4_gatherHeavyOfBoth 57 = .ok (.getfield 39, 3) := dk_get _ da_cX4_gatherHeavyOfBoth_0 29 _ _ _ rfl
theorem dX4_gatherHeavyOfBoth_60 : decode cX4_gatherHeavyOfBoth 60 = .ok (.invokevirtual 266, 3) := dk_get _ da_cX4_gatherHeavyOfBoth_0 30 _ _ _ rfl
theorem dX4_gatherHeavyOfBoth_63 : decode cX4_gatherHeavyOfBoth 63 = .ok (.aload_n 0, 1) := dk_get _ da_cX4_gatherHeavyOfBoth_0 31 _ _ _ rfl
theorem dX4_gatherHeavyOfBoth_64 : decode cX4_gatherHeavyOfBoth 64 = .ok (.getfield 35, 3) := dk_get _ da_cX4_gatherHeavyOfBoth_0 32 _ _ _ rfl
theorem dX4_gatherHeavyOfBoth_67 : decode cX4_gatherHeavyOfBoth 67 = .ok (.aload_n 0, 1) := dk_get _ da_cX4_gatherHeavyOfBoth_0 33 _ _ _ rfl
theorem dX4_gatherHeavyOfBoth_68 : decode cX4_gatherHeavyOfBoth 68 = .ok (.getfield 49, 3) := dk_get _ da_cX4_gatherHeavyOfBoth_0 34 _ _ _ rfl
theorem dX4_gatherHeavyOfBoth_71 : decode cX4_gatherHeavyOfBoth 71 = .ok (.invokevirtual 270, 3) := dk_get _ da_cX4_gatherHeavyOfBoth_0 35 _ _ _ rfl
theorem dX4_gatherHeavyOfBoth_74 : decode cX4_gatherHeavyOfBoth 74 = .ok (.iconst 0, 1) := dk_get _ da_cX4_gatherHeavyOfBoth_0 36 _ _ _ rfl
theorem dX4_gatherHeavyOfBoth_75 : decode cX4_gatherHeavyOfBoth 75 = .ok (.istore 8, 2) := dk_get _ da_cX4_gatherHeavyOfBoth_0 37 _ _ _ rfl
theorem dX4_gatherHeavyOfBoth_77 : decode cX4_gatherHeavyOfBoth 77 = .ok (.iload 8, 2) := dk_get _ da_cX4_gatherHeavyOfBoth_0 38 _ _ _ rfl
theorem dX4_gatherHeavyOfBoth_79 : decode cX4_gatherHeavyOfBoth 79 = .ok (.aload_n 0, 1) := dk_get _ da_cX4_gatherHeavyOfBoth_0 39 _ _ _ rfl
theorem dX4_gatherHeavyOfBoth_80 : decode cX4_gatherHeavyOfBoth 80 = .ok (.getfield 35, 3) := dk_get _ da_cX4_gatherHeavyOfBoth_0 40 _ _ _ rfl
theorem dX4_gatherHeavyOfBoth_83 : decode cX4_gatherHeavyOfBoth 83 = .ok (.getfield 174, 3) := dk_get _ da_cX4_gatherHeavyOfBoth_0 41 _ _ _ rfl
theorem dX4_gatherHeavyOfBoth_86 : decode cX4_gatherHeavyOfBoth 86 = .ok (.if_icmp .ge 56, 3) := dk_get _ da_cX4_gatherHeavyOfBoth_0 42 _ _ _ rfl
theorem dX4_gatherHeavyOfBoth_89 : decode cX4_gatherHeavyOfBoth 89 = .ok (.aload_n 0, 1) := dk_get _ da_cX4_gatherHeavyOfBoth_0 43 _ _ _ rfl
theorem dX4_gatherHeavyOfBoth_90 : decode cX4_gatherHeavyOfBoth 90 = .ok (.getfield 35, 3) := dk_get _ da_cX4_gatherHeavyOfBoth_0 44 _ _ _ rfl
theorem dX4_gatherHeavyOfBoth_93 : decode cX4_gatherHeavyOfBoth 93 = .ok (.getfield 133, 3) := dk_get _ da_cX4_gatherHeavyOfBoth_0 45 _ _ _ rfl
theorem dX4_gatherHeavyOfBoth_96 : decode cX4_gatherHeavyOfBoth 96 = .ok (.iload 8, 2) := dk_get _ da_cX4_gatherHeavyOfBoth_0 46 _ _ _ rfl
theorem dX4_gatherHeavyOfBoth_98 : decode cX4_gatherHeavyOfBoth 98 = .ok (.iaload, 1) := dk_get _ da_cX4_gatherHeavyOfBoth_0 47 _ _ _ rfl
theorem dX4_gatherHeavyOfBoth_99 : decode cX4_gatherHeavyOfBoth 99 = .ok (.istore 9, 2) := dk_get _ da_cX4_gatherHeavyOfBoth_0 48 _ _ _ rfl
theorem dX4_gatherHeavyOfBoth_101 : decode cX4_gatherHeavyOfBoth 101 = .ok (.aload_n 0, 1) := dk_get _ da_cX4_gatherHeavyOfBoth_0 49 _ _ _ rfl
theorem dX4_gatherHeavyOfBoth_102 : decode cX4_gatherHeavyOfBoth 102 = .ok (.getfield 35, 3) := dk_get _ da_cX4_gatherHeavyOfBoth_0 50 _ _ _ rfl
theorem dX4_gatherHeavyOfBoth_105 : decode cX4_gatherHeavyOfBoth 105 = .ok (.getfield 136, 3) := dk_get _ da_cX4_gatherHeavyOfBoth_0 51 _ _ _ rfl
theorem dX4_gatherHeavyOfBoth_108 : decode cX4_gatherHeavyOfBoth 108 = .ok (.iload 8, 2) := dk_get _ da_cX4_gatherHeavyOfBoth_0 52 _ _ _ rfl
theorem dX4_gatherHeavyOfBoth_110 : decode cX4_gatherHeavyOfBoth 110 = .ok (.aload_n 0, 1) := dk_get _ da_cX4_gatherHeavyOfBoth_0 53 _ _ _ rfl
theorem dX4_gatherHeavyOfBoth_111 : decode cX4_gatherHeavyOfBoth 111 = .ok (.getfield 12, 3) := dk_get _ da_cX4_gatherHeavyOfBoth_0 54 _ _ _ rfl
theorem dX4_gatherHeavyOfBoth_114 : decode cX4_gatherHeavyOfBoth 114 = .ok (.iload 9, 2) := dk_get _ da_cX4_gatherHeavyOfBoth_0 55 _ _ _ rfl
theorem dX4_gatherHeavyOfBoth_116 : decode cX4_gatherHeavyOfBoth 116 = .ok (.iload_n 2, 1) := dk_get _ da_cX4_gatherHeavyOfBoth_0 56 _ _ _ rfl
theorem dX4_gatherHeavyOfBoth_117 : decode cX4_gatherHeavyOfBoth 117 = .ok (.iload_n 3, 1) := dk_get _ da_cX4_gatherHeavyOfBoth_0 57 _ _ _ rfl
theorem dX4_gatherHeavyOfBoth_118 : decode cX4_gatherHeavyOfBoth 118 = .ok (.invokevirtual 113, 3) := dk_get _ da_cX4_gatherHeavyOfBoth_0 58 _ _ _ rfl
theorem dX4_gatherHeavyOfBoth_121 : decode cX4_gatherHeavyOfBoth 121 = .ok (.aload_n 0, 1) := dk_get _ da_cX4_gatherHeavyOfBoth_0 59 _ _ _ rfl
def dt_cX4_gatherHeavyOfBoth_1 : List (Nat × Instr × Nat) := [(122, .getfield 12, 3), (125, .iload 9, 2), (127, .iload 4, 2), (129, .iload 5, 2), (131, .invokevirtual 113, 3), (134, .iadd, 1), (135, .iastore, 1), (136, .iinc 8 1, 3), (139, .goto (-62), 3), (142, .aload_n 0, 1), (143, .getfield 35, 3), (146, .iload_n 3, 1), (147, .iload_n 2, 1), (148, .isub, 1), (149, .iload 5, 2), (151, .iadd, 1), (152, .iload 4, 2), (154, .isub, 1), (155, .iload 6, 2), (157, .iload 7, 2), (159, .invokevirtual 262, 3), (162, .return_, 1)]
theorem da_cX4_gatherHeavyOfBoth_1 : dk_all cX4_gatherHeavyOfBoth dt_cX4_gatherHeavyOfBoth_1 = true := by decide +kernel
theorem dX4_gatherHeavyOfBoth_122 : decode cX4_gatherHeavyOfBoth 122 = .ok (.getfield 12, 3) := dk_get _ da_cX4_gatherHeavyOfBoth_1 0 _ _ _ rfl
theorem dX4_gatherHeavyOfBoth_125 : decode cX4_gatherHeavyOfBoth 125 = .ok (.iload 9, 2) := dk_get _ da_cX4_gatherHeavyOfBoth_1 1 _ _ _ rfl
theorem dX4_gatherHeavyOfBoth_127 : decode cX4_gatherHeavyOfBoth 127 = .ok (.iload 4, 2) := dk_get _ da_cX4_gatherHeavyOfBoth_1 2 _ _ _ rfl
theorem dX4_gatherHeavyOfBoth_129 : decode cX4_gatherHeavyOfBoth 129 = .ok (.iload 5, 2) := dk_get _ da_cX4_gatherHeavyOfBoth_1 3 _ _ _ rfl
theorem dX4_gatherHeavyOfBoth_131 : decode cX4_gatherHeavyOfBoth 131 = .ok (.invokevirtual 113, 3) := dk_get _ da_cX4_gatherHeavyOfBoth_1 4 _ _ _ rfl
theorem dX4_gatherHeavyOfBoth_134 : decode cX4_gatherHeavyOfBoth 134 = .ok (.iadd, 1) := dk_get _ da_cX4_gatherHeavyOfBoth_1 5 _ _ _ rfl
theorem dX4_gatherHeavyOfBoth_135 : decode cX4_gatherHeavyOfBoth 135 = .ok (.iastore, 1) := dk_get _ da_cX4_gatherHeavyOfBoth_1 6 _ _ _ rfl
theorem dX4_gatherHeavyOfBoth_136 : decode cX4_gatherHeavyOfBoth 136 = .ok (.iinc 8 1, 3) := dk_get _ da_cX4_gatherHeavyOfBoth_1 7 _ _ _ rfl
theorem dX4_gatherHeavyOfBoth_139 : decode cX4_gatherHeavyOfBoth 139 = .ok (.goto (-62), 3) := dk_get _ da_cX4_gatherHeavyOfBoth_1 8 _ _ _ rfl
theorem dX4_gatherHeavyOfBoth_142 : decode cX4_gatherHeavyOfBoth 142 = .ok (.aload_n 0, 1) := dk_get _ da_cX4_gatherHeavyOfBoth_1 9 _ _ _ rfl
theorem dX4_gatherHeavyOfBoth_143 : decode cX4_gatherHeavyOfBoth 143 = .ok (.getfield 35, 3) := dk_get _ da_cX4_gatherHeavyOfBoth_1 10 _ _ _ rfl
theorem dX4_gatherHeavyOfBoth_146 : decode cX4_gatherHeavyOfBoth 146 = .ok (.iload_n 3, 1) := dk_get _ da_cX4_gatherHeavyOfBoth_1 11 _ _ _ rfl
theorem dX4_gatherHeavyOfBoth_147 : decode cX4_gatherHeavyOfBoth 147 = .ok (.iload_n 2, 1) := dk_get _ da_cX4_gatherHeavyOfBoth_1 12 _ _ _ rfl
theorem dX4_gatherHeavyOfBoth_148 : decode cX4_gatherHeavyOfBoth 148 = .ok (.isub, 1) := dk_get _ da_cX4_gatherHeavyOfBoth_1 13 _ _ _ rfl
theorem dX4_gatherHeavyOfBoth_149 : decode cX4_gatherHeavyOfBoth 149 = .ok (.iload 5, 2) := dk_get _ da_cX4_gatherHeavyOfBoth_1 14 _ _ _ rfl
theorem dX4_gatherHeavyOfBoth_151 : decode cX4_gatherHeavyOfBoth 151 = .ok (.iadd, 1) := dk_get _ da_cX4_gatherHeavyOfBoth_1 15 _ _ _ rfl
theorem dX4_gatherHeavyOfBoth_152 : decode cX4_gatherHeavyOfBoth 152 = .ok (.iload 4, 2) := dk_get _ da_cX4_gatherHeavyOfBoth_1 16 _ _ _ rfl
theorem dX4_gatherHeavyOfBoth_154 : decode cX4_gatherHeavyOfBoth 154 = .ok (.isub, 1) := dk_get _ da_cX4_gatherHeavyOfBoth_1 17 _ _ _ rfl
theorem dX4_gatherHeavyOfBoth_155 : decode cX4_gatherHeavyOfBoth 155 = .ok (.iload 6, 2) := dk_get _ da_cX4_gatherHeavyOfBoth_1 18 _ _ _ rfl
theorem dX4_gatherHeavyOfBoth_157 : decode cX4_gatherHeavyOfBoth 157 = .ok (.iload 7, 2) := dk_get _ da_cX4_gatherHeavyOfBoth_1 19 _ _ _ rfl
theorem dX4_gatherHeavyOfBoth_159 : decode cX4_gatherHeavyOfBoth 159 = .ok (.invokevirtual 262, 3) := dk_get _ da_cX4_gatherHeavyOfBoth_1 20 _ _ _ rfl
theorem dX4_gatherHeavyOfBoth_162 : decode cX4_gatherHeavyOfBoth 162 = .ok (.return_, 1) := dk_get _ da_cX4_gatherHeavyOfBoth_1 21 _ _ _ rfl
set_option maxRecDepth 20000 in
theorem ggX4_heavyValues_X0_oftenIn : GoodIn wsX4_heavyValues wsX0_oftenIn := goodIn_r _ [7, 8, 22, 23] rfl (by decide +kernel)
set_option maxRecDepth 20000 in
theorem gX4_heavyValues_X0_oftenIn : GoodIn wsX4_heavyValues (wsV RX4 113 RX0 yX0_oftenIn wsX0_oftenIn) := goodIn_app (goodIn_r _ [3, 4, 5, 6] rfl (by decide +kernel)) ggX4_heavyValues_X0_oftenIn
set_option maxRecDepth 20000 in
theorem ggX4_heavyValues_X4_isHeavy : GoodIn wsX4_heavyValues wsX4_isHeavy := goodIn_r _ [12] rfl (by decide +kernel)
set_option maxRecDepth 20000 in
theorem gX4_heavyValues_X4_isHeavy : GoodIn wsX4_heavyValues (va_wsS RX4 273 yX4_isHeavy wsX4_isHeavy) := goodIn_app (goodIn_r _ [9, 10, 11] rfl (by decide +kernel)) ggX4_heavyValues_X4_isHeavy
def dt_cX4_heavyValues_0 : List (Nat × Instr × Nat) := [(0, .iconst 0, 1), (1, .istore 5, 2), (3, .iload_n 1, 1), (4, .istore 6, 2), (6, .iload 6, 2), (8, .iload_n 2, 1), (9, .if_icmp .ge 63, 3), (12, .aload_n 0, 1), (13, .getfield 12, 3), (16, .getfield 110, 3), (19, .iload 6, 2), (21, .iaload, 1), (22, .istore 7, 2), (24, .aload_n 0, 1), (25, .getfield 12, 3), (28, .iload 7, 2), (30, .iload_n 1, 1), (31, .iload 6, 2), (33, .invokevirtual 113, 3), (36, .ifCond .ne 30, 3), (39, .aload_n 0, 1), (40, .getfield 12, 3), (43, .iload 7, 2), (45, .iload 6, 2), (47, .iload_n 2, 1), (48, .invokevirtual 113, 3), (51, .iload_n 2, 1), (52, .iload_n 1, 1), (53, .isub, 1), (54, .iload_n 3, 1), (55, .iload 4, 2), (57, .invokestatic 273, 3), (60, .ifCond .eq 6, 3), (63, .iinc 5 1, 3), (66, .iinc 6 1, 3), (69, .goto (-63), 3), (72, .iload 5, 2), (74, .ireturn, 1)]
theorem da_cX4_heavyValues_0 : dk_all cX4_heavyValues dt_cX4_heavyValues_0 = true := by decide +kernel
theorem dX4_heavyValues_0 : decode cX4_heavyValues 0 = .ok (.iconst 0, 1) := dk_get _ da_cX4_heavyValues_0 0 _ _ _ rfl
theorem dX4_heavyValues_1 : decode cX4_heavyValues 1 = .ok (.istore 5, 2) := dk_get _ da_cX4_heavyValues_0 1 _ _ _ rfl
theorem dX4_heavyValues_3 : decode cX4_heavyValues 3 = .ok (.iload_n 1, 1) := dk_get _ da_cX4_heavyValues_0 2 _ _ _ rfl
theorem dX4_heavyValues_4 : decode cX4_heavyValues 4 = .ok (.istore 6, 2) := dk_get _ da_cX4_heavyValues_0 3 _ _ _ rfl
theorem dX4_heavyValues_6 : decode cX4_heavyValues 6 = .ok (.iload 6, 2) := dk_get _ da_cX4_heavyValues_0 4 _ _ _ rfl
theorem dX4_heavyValues_8 : decode cX4_heavyValues 8 = .ok (.iload_n 2, 1) := dk_get _ da_cX4_heavyValues_0 5 _ _ _ rfl
theorem dX4_heavyValues_9 : decode cX4_heavyValues 9 = .ok (.if_icmp .ge 63, 3) := dk_get _ da_cX4_heavyValues_0 6 _ _ _ rfl
theorem dX4_heavyValues_12 : decode cX4_heavyValues 12 = .ok (.aload_n 0, 1) := dk_get _ da_cX4_heavyValues_0 7 _ _ _ rfl
theorem dX4_heavyValues_13 : decode cX4_heavyValues 13 = .ok (.getfield 12, 3) := dk_get _ da_cX4_heavyValues_0 8 _ _ _ rfl
theorem dX4_heavyValues_16 : decode cX4_heavyValues 16 = .ok (.getfield 110, 3) := dk_get _ da_cX4_heavyValues_0 9 _ _ _ rfl
theorem dX4_heavyValues_19 : decode cX4_heavyValues 19 = .ok (.iload 6, 2) := dk_get _ da_cX4_heavyValues_0 10 _ _ _ rfl
theorem dX4_heavyValues_21 : decode cX4_heavyValues 21 = .ok (.iaload, 1) := dk_get _ da_cX4_heavyValues_0 11 _ _ _ rfl
theorem dX4_heavyValues_22 : decode cX4_heavyValues 22 = .ok (.istore 7, 2) := dk_get _ da_cX4_heavyValues_0 12 _ _ _ rfl
theorem dX4_heavyValues_24 : decode cX4_heavyValues 24 = .ok (.aload_n 0, 1) := dk_get _ da_cX4_heavyValues_0 13 _ _ _ rfl
theorem dX4_heavyValues_25 : decode cX4_heavyValues 25 = .ok (.getfield 12, 3) := dk_get _ da_cX4_heavyValues_0 14 _ _ _ rfl
theorem dX4_heavyValues_28 : decode cX4_heavyValues 28 = .ok (.iload 7, 2) := dk_get _ da_cX4_heavyValues_0 15 _ _ _ rfl
theorem dX4_heavyValues_30 : decode cX4_heavyValues 30 = .ok (.iload_n 1, 1) := dk_get _ da_cX4_heavyValues_0 16 _ _ _ rfl
theorem dX4_heavyValues_31 : decode cX4_heavyValues 31 = .ok (.iload 6, 2) := dk_get _ da_cX4_heavyValues_0 17 _ _ _ rfl
theorem dX4_heavyValues_33 : decode cX4_heavyValues 33 = .ok (.invokevirtual 113, 3) := dk_get _ da_cX4_heavyValues_0 18 _ _ _ rfl
theorem dX4_heavyValues_36 : decode cX4_heavyValues 36 = .ok (.ifCond .ne 30, 3) := dk_get _ da_cX4_heavyValues_0 19 _ _ _ rfl
theorem dX4_heavyValues_39 : decode cX4_heavyValues 39 = .ok (.aload_n 0, 1) := dk_get _ da_cX4_heavyValues_0 20 _ _ _ rfl
theorem dX4_heavyValues_40 : decode cX4_heavyValues 40 = .ok (.getfield 12, 3) := dk_get _ da_cX4_heavyValues_0 21 _ _ _ rfl
theorem dX4_heavyValues_43 : decode cX4_heavyValues 43 = .ok (.iload 7, 2) := dk_get _ da_cX4_heavyValues_0 22 _ _ _ rfl
theorem dX4_heavyValues_45 : decode cX4_heavyValues 45 = .ok (.iload 6, 2) := dk_get _ da_cX4_heavyValues_0 23 _ _ _ rfl
theorem dX4_heavyValues_47 : decode cX4_heavyValues 47 = .ok (.iload_n 2, 1) := dk_get _ da_cX4_heavyValues_0 24 _ _ _ rfl
theorem dX4_heavyValues_48 : decode cX4_heavyValues 48 = .ok (.invokevirtual 113, 3) := dk_get _ da_cX4_heavyValues_0 25 _ _ _ rfl
theorem dX4_heavyValues_51 : decode cX4_heavyValues 51 = .ok (.iload_n 2, 1) := dk_get _ da_cX4_heavyValues_0 26 _ _ _ rfl
theorem dX4_heavyValues_52 : decode cX4_heavyValues 52 = .ok (.iload_n 1, 1) := dk_get _ da_cX4_heavyValues_0 27 _ _ _ rfl
theorem dX4_heavyValues_53 : decode cX4_heavyValues 53 = .ok (.isub, 1) := dk_get _ da_cX4_heavyValues_0 28 _ _ _ rfl
theorem dX4_heavyValues_54 : decode cX4_heavyValues 54 = .ok (.iload_n 3, 1) := dk_get _ da_cX4_heavyValues_0 29 _ _ _ rfl
theorem dX4_heavyValues_55 : decode cX4_heavyValues 55 = .ok (.iload 4, 2) := dk_get _ da_cX4_heavyValues_0 30 _ _ _ rfl
theorem dX4_heavyValues_57 : decode cX4_heavyValues 57 = .ok (.invokestatic 273, 3) := dk_get _ da_cX4_heavyValues_0 31 _ _ _ rfl
theorem dX4_heavyValues_60 : decode cX4_heavyValues 60 = .ok (.ifCond .eq 6, 3) := dk_get _ da_cX4_heavyValues_0 32 _ _ _ rfl
theorem dX4_heavyValues_63 : decode cX4_heavyValues 63 = .ok (.iinc 5 1, 3) := dk_get _ da_cX4_heavyValues_0 33 _ _ _ rfl
theorem dX4_heavyValues_66 : decode cX4_heavyValues 66 = .ok (.iinc 6 1, 3) := dk_get _ da_cX4_heavyValues_0 34 _ _ _ rfl
theorem dX4_heavyValues_69 : decode cX4_heavyValues 69 = .ok (.goto (-63), 3) := dk_get _ da_cX4_heavyValues_0 35 _ _ _ rfl
theorem dX4_heavyValues_72 : decode cX4_heavyValues 72 = .ok (.iload 5, 2) := dk_get _ da_cX4_heavyValues_0 36 _ _ _ rfl
theorem dX4_heavyValues_74 : decode cX4_heavyValues 74 = .ok (.ireturn, 1) := dk_get _ da_cX4_heavyValues_0 37 _ _ _ rfl
set_option maxRecDepth 20000 in
theorem ggX4_heavyVotesBy_X2_renew : GoodIn wsX4_heavyVotesBy wsX2_renew := goodIn_r _ [10, 11, 12, 13, 14, 15, 16, 9, 17, 18, 19, 20, 21, 22, 23, 24, 25, 26, 27, 28, 29, 30, 31, 32, 33, 34, 35, 36, 37, 38, 39, 40, 41, 42, 43, 44, 45, 46, 47, 48, 49, 50, 51, 52, 53, 54, 55, 56, 57, 58, 59, 60, 61, 62, 63, 64, 65, 66, 67, 68, 69, 70, 71, 72, 73, 74, 75, 76, 77, 78, 79, 80, 81, 100, 101, 102, 103, 104, 105, 106, 107, 108, 109, 110, 125, 126, 120, 121, 122, 123, 124] rfl (by decide +kernel)
set_option maxRecDepth 20000 in
theorem gX4_heavyVotesBy_X2_renew : GoodIn wsX4_heavyVotesBy (wsV RX4 87 RX2 yX2_renew wsX2_renew) := goodIn_app (goodIn_r _ [6, 7, 8, 9] rfl (by decide +kernel)) ggX4_heavyVotesBy_X2_renew
set_option maxRecDepth 20000 in
theorem ggX4_heavyVotesBy_X2_gather : GoodIn wsX4_heavyVotesBy wsX2_gather := goodIn_r _ [85, 11, 13, 21, 22, 23, 24, 25, 26, 27, 28, 29, 86, 87, 88, 9, 89, 12, 36, 37, 38, 39, 40, 41, 42, 43, 44, 30, 31, 32, 33, 34, 35, 49, 50, 51, 52, 53, 54, 55, 56, 57, 58, 59, 60, 61, 62, 63, 64, 100, 101, 102, 103, 104, 105, 106, 107, 108, 109, 110, 120, 121, 122, 123, 124] rfl (by decide +kernel)
set_option maxRecDepth 20000 in
theorem gX4_heavyVotesBy_X2_gather : GoodIn wsX4_heavyVotesBy (wsV RX4 170 RX2 yX2_gather wsX2_gather) := goodIn_app (goodIn_r _ [82, 83, 84, 9] rfl (by decide +kernel)) ggX4_heavyVotesBy_X2_gather
set_option maxRecDepth 20000 in
theorem ggX4_heavyVotesBy_X0_oftenIn : GoodIn wsX4_heavyVotesBy wsX0_oftenIn := goodIn_r _ [94, 95, 125, 126] rfl (by decide +kernel)
set_option maxRecDepth 20000 in
theorem gX4_heavyVotesBy_X0_oftenIn : GoodIn wsX4_heavyVotesBy (wsV RX4 113 RX0 yX0_oftenIn wsX0_oftenIn) := goodIn_app (goodIn_r _ [90, 91, 92, 93] rfl (by decide +kernel)) ggX4_heavyVotesBy_X0_oftenIn
set_option maxRecDepth 20000 in
theorem ggX4_heavyVotesBy_X4_isHeavy : GoodIn wsX4_heavyVotesBy wsX4_isHeavy := goodIn_r _ [99] rfl (by decide +kernel)
set_option maxRecDepth 20000 in
theorem gX4_heavyVotesBy_X4_isHeavy : GoodIn wsX4_heavyVotesBy (va_wsS RX4 273 yX4_isHeavy wsX4_isHeavy) := goodIn_app (goodIn_r _ [96, 97, 98] rfl (by decide +kernel)) ggX4_heavyVotesBy_X4_isHeavy
def dt_cX4_heavyVotesBy_0 : List (Nat × Instr × Nat) := [(0, .aload_n 1, 1), (1, .iload_n 2, 1), (2, .putfield 204, 3), (5, .aload_n 1, 1), (6, .iload_n 3, 1), (7, .iload 4, 2), (9, .invokevirtual 87, 3), (12, .pop, 1), (13, .aload_n 1, 1), (14, .aload_n 0, 1), (15, .getfield 35, 3), (18, .iload_n 3, 1), (19, .iload 4, 2), (21, .invokevirtual 170, 3), (24, .iconst 0, 1), (25, .istore 7, 2), (27, .iconst 0, 1), (28, .istore 8, 2), (30, .iload 8, 2), (32, .aload_n 0, 1), (33, .getfield 35, 3), (36, .getfield 174, 3), (39, .if_icmp .ge 46, 3), (42, .aload_n 0, 1), (43, .getfield 12, 3), (46, .aload_n 0, 1), (47, .getfield 35, 3), (50, .getfield 133, 3), (53, .iload 8, 2), (55, .iaload, 1), (56, .iload_n 3, 1), (57, .iload 4, 2), (59, .invokevirtual 113, 3), (62, .iload 4, 2), (64, .iload_n 3, 1), (65, .isub, 1), (66, .iload 5, 2), (68, .iload 6, 2), (70, .invokestatic 273, 3), (73, .ifCond .eq 6, 3), (76, .iinc 7 1, 3), (79, .iinc 8 1, 3), (82, .goto (-52), 3), (85, .iload 7, 2), (87, .ireturn, 1)]
theorem da_cX4_heavyVotesBy_0 : dk_all cX4_heavyVotesBy dt_cX4_heavyVotesBy_0 = true := by decide +kernel
theorem dX4_heavyVotesBy_0 : decode cX4_heavyVotesBy 0 = .ok (.aload_n 1, 1) := dk_get _ da_cX4_heavyVotesBy_0 0 _ _ _ rfl
theorem dX4_heavyVotesBy_1 : decode cX4_heavyVotesBy 1 = .ok (.iload_n 2, 1) := dk_get _ da_cX4_heavyVotesBy_0 1 _ _ _ rfl
theorem dX4_heavyVotesBy_2 : decode cX4_heavyVotesBy 2 = .ok (.putfield 204, 3) := dk_get _ da_cX4_heavyVotesBy_0 2 _ _ _ rfl
theorem dX4_heavyVotesBy_5 : decode cX4_heavyVotesBy 5 = .ok (.aload_n 1, 1) := dk_get _ da_cX4_heavyVotesBy_0 3 _ _ _ rfl
theorem dX4_heavyVotesBy_6 : decode cX4_heavyVotesBy 6 = .ok (.iload_n 3, 1) := dk_get _ da_cX4_heavyVotesBy_0 4 _ _ _ rfl
theorem dX4_heavyVotesBy_7 : decode cX4_heavyVotesBy 7 = .ok (.iload 4, 2) := dk_get _ da_cX4_heavyVotesBy_0 5 _ _ _ rfl
theorem dX4_heavyVotesBy_9 : decode cX4_heavyVotesBy 9 = .ok (.invokevirtual 87, 3) := dk_get _ da_cX4_heavyVotesBy_0 6 _ _ _ rfl
theorem dX4_heavyVotesBy_12 : decode cX4_heavyVotesBy 12 = .ok (.pop, 1) := dk_get _ da_cX4_heavyVotesBy_0 7 _ _ _ rfl
theorem dX4_heavyVotesBy_13 : decode cX4_heavyVotesBy 13 = .ok (.aload_n 1, 1) := dk_get _ da_cX4_heavyVotesBy_0 8 _ _ _ rfl
theorem dX4_heavyVotesBy_14 : decode cX4_heavyVotesBy 14 = .ok (.aload_n 0, 1) := dk_get _ da_cX4_heavyVotesBy_0 9 _ _ _ rfl
theorem dX4_heavyVotesBy_15 : decode cX4_heavyVotesBy 15 = .ok (.getfield 35, 3) := dk_get _ da_cX4_heavyVotesBy_0 10 _ _ _ rfl
theorem dX4_heavyVotesBy_18 : decode cX4_heavyVotesBy 18 = .ok (.iload_n 3, 1) := dk_get _ da_cX4_heavyVotesBy_0 11 _ _ _ rfl
theorem dX4_heavyVotesBy_19 : decode cX4_heavyVotesBy 19 = .ok (.iload 4, 2) := dk_get _ da_cX4_heavyVotesBy_0 12 _ _ _ rfl
theorem dX4_heavyVotesBy_21 : decode cX4_heavyVotesBy 21 = .ok (.invokevirtual 170, 3) := dk_get _ da_cX4_heavyVotesBy_0 13 _ _ _ rfl
theorem dX4_heavyVotesBy_24 : decode cX4_heavyVotesBy 24 = .ok (.iconst 0, 1) := dk_get _ da_cX4_heavyVotesBy_0 14 _ _ _ rfl
theorem dX4_heavyVotesBy_25 : decode cX4_heavyVotesBy 25 = .ok (.istore 7, 2) := dk_get _ da_cX4_heavyVotesBy_0 15 _ _ _ rfl
theorem dX4_heavyVotesBy_27 : decode cX4_heavyVotesBy 27 = .ok (.iconst 0, 1) := dk_get _ da_cX4_heavyVotesBy_0 16 _ _ _ rfl
theorem dX4_heavyVotesBy_28 : decode cX4_heavyVotesBy 28 = .ok (.istore 8, 2) := dk_get _ da_cX4_heavyVotesBy_0 17 _ _ _ rfl
theorem dX4_heavyVotesBy_30 : decode cX4_heavyVotesBy 30 = .ok (.iload 8, 2) := dk_get _ da_cX4_heavyVotesBy_0 18 _ _ _ rfl
theorem dX4_heavyVotesBy_32 : decode cX4_heavyVotesBy 32 = .ok (.aload_n 0, 1) := dk_get _ da_cX4_heavyVotesBy_0 19 _ _ _ rfl
theorem dX4_heavyVotesBy_33 : decode cX4_heavyVotesBy 33 = .ok (.getfield 35, 3) := dk_get _ da_cX4_heavyVotesBy_0 20 _ _ _ rfl
theorem dX4_heavyVotesBy_36 : decode cX4_heavyVotesBy 36 = .ok (.getfield 174, 3) := dk_get _ da_cX4_heavyVotesBy_0 21 _ _ _ rfl
theorem dX4_heavyVotesBy_39 : decode cX4_heavyVotesBy 39 = .ok (.if_icmp .ge 46, 3) := dk_get _ da_cX4_heavyVotesBy_0 22 _ _ _ rfl
theorem dX4_heavyVotesBy_42 : decode cX4_heavyVotesBy 42 = .ok (.aload_n 0, 1) := dk_get _ da_cX4_heavyVotesBy_0 23 _ _ _ rfl
theorem dX4_heavyVotesBy_43 : decode cX4_heavyVotesBy 43 = .ok (.getfield 12, 3) := dk_get _ da_cX4_heavyVotesBy_0 24 _ _ _ rfl
theorem dX4_heavyVotesBy_46 : decode cX4_heavyVotesBy 46 = .ok (.aload_n 0, 1) := dk_get _ da_cX4_heavyVotesBy_0 25 _ _ _ rfl
theorem dX4_heavyVotesBy_47 : decode cX4_heavyVotesBy 47 = .ok (.getfield 35, 3) := dk_get _ da_cX4_heavyVotesBy_0 26 _ _ _ rfl
theorem dX4_heavyVotesBy_50 : decode cX4_heavyVotesBy 50 = .ok (.getfield 133, 3) := dk_get _ da_cX4_heavyVotesBy_0 27 _ _ _ rfl
theorem dX4_heavyVotesBy_53 : decode cX4_heavyVotesBy 53 = .ok (.iload 8, 2) := dk_get _ da_cX4_heavyVotesBy_0 28 _ _ _ rfl
theorem dX4_heavyVotesBy_55 : decode cX4_heavyVotesBy 55 = .ok (.iaload, 1) := dk_get _ da_cX4_heavyVotesBy_0 29 _ _ _ rfl
theorem dX4_heavyVotesBy_56 : decode cX4_heavyVotesBy 56 = .ok (.iload_n 3, 1) := dk_get _ da_cX4_heavyVotesBy_0 30 _ _ _ rfl
theorem dX4_heavyVotesBy_57 : decode cX4_heavyVotesBy 57 = .ok (.iload 4, 2) := dk_get _ da_cX4_heavyVotesBy_0 31 _ _ _ rfl
theorem dX4_heavyVotesBy_59 : decode cX4_heavyVotesBy 59 = .ok (.invokevirtual 113, 3) := dk_get _ da_cX4_heavyVotesBy_0 32 _ _ _ rfl
theorem dX4_heavyVotesBy_62 : decode cX4_heavyVotesBy 62 = .ok (.iload 4, 2) := dk_get _ da_cX4_heavyVotesBy_0 33 _ _ _ rfl
theorem dX4_heavyVotesBy_64 : decode cX4_heavyVotesBy 64 = .ok (.iload_n 3, 1) := dk_get _ da_cX4_heavyVotesBy_0 34 _ _ _ rfl
theorem dX4_heavyVotesBy_65 : decode cX4_heavyVotesBy 65 = .ok (.isub, 1) := dk_get _ da_cX4_heavyVotesBy_0 35 _ _ _ rfl
theorem dX4_heavyVotesBy_66 : decode cX4_heavyVotesBy 66 = .ok (.iload 5, 2) := dk_get _ da_cX4_heavyVotesBy_0 36 _ _ _ rfl
theorem dX4_heavyVotesBy_68 : decode cX4_heavyVotesBy 68 = .ok (.iload 6, 2) := dk_get _ da_cX4_heavyVotesBy_0 37 _ _ _ rfl
theorem dX4_heavyVotesBy_70 : decode cX4_heavyVotesBy 70 = .ok (.invokestatic 273, 3) := dk_get _ da_cX4_heavyVotesBy_0 38 _ _ _ rfl
theorem dX4_heavyVotesBy_73 : decode cX4_heavyVotesBy 73 = .ok (.ifCond .eq 6, 3) := dk_get _ da_cX4_heavyVotesBy_0 39 _ _ _ rfl
theorem dX4_heavyVotesBy_76 : decode cX4_heavyVotesBy 76 = .ok (.iinc 7 1, 3) := dk_get _ da_cX4_heavyVotesBy_0 40 _ _ _ rfl
theorem dX4_heavyVotesBy_79 : decode cX4_heavyVotesBy 79 = .ok (.iinc 8 1, 3) := dk_get _ da_cX4_heavyVotesBy_0 41 _ _ _ rfl
theorem dX4_heavyVotesBy_82 : decode cX4_heavyVotesBy 82 = .ok (.goto (-52), 3) := dk_get _ da_cX4_heavyVotesBy_0 42 _ _ _ rfl
theorem dX4_heavyVotesBy_85 : decode cX4_heavyVotesBy 85 = .ok (.iload 7, 2) := dk_get _ da_cX4_heavyVotesBy_0 43 _ _ _ rfl
theorem dX4_heavyVotesBy_87 : decode cX4_heavyVotesBy 87 = .ok (.ireturn, 1) := dk_get _ da_cX4_heavyVotesBy_0 44 _ _ _ rfl
set_option maxRecDepth 20000 in
theorem ggX4_rootTotalWith_X2_renew : GoodIn wsX4_rootTotalWith wsX2_renew := goodIn_r _ [8, 9, 10, 11, 12, 13, 14, 7, 15, 16, 17, 18, 19, 20, 21, 22, 23, 24, 25, 26, 27, 28, 29, 30, 31, 32, 33, 34, 35, 36, 37, 38, 39, 40, 41, 42, 43, 44, 45, 46, 47, 48, 49, 50, 51, 52, 53, 54, 55, 56, 57, 58, 59, 60, 61, 62, 63, 64, 65, 66, 67, 68, 69, 70, 71, 72, 73, 74, 75, 76, 77, 78, 79, 99, 100, 101, 102, 103, 104, 105, 106, 107, 108, 109, 97, 98, 110, 111, 112, 113, 114] rfl (by decide +kernel)
set_option maxRecDepth 20000 in
theorem gX4_rootTotalWith_X2_renew : GoodIn wsX4_rootTotalWith (wsV RX4 87 RX2 yX2_renew wsX2_renew) := goodIn_app (goodIn_r _ [4, 5, 6, 7] rfl (by decide +kernel)) ggX4_rootTotalWith_X2_renew
set_option maxRecDepth 20000 in
theorem ggX4_rootTotalWith_X2_copyTo : GoodIn wsX4_rootTotalWith wsX2_copyTo := goodIn_r _ [83, 20, 21, 22, 23, 24, 25, 26, 27, 34, 35, 36, 7, 37, 38, 39, 40, 41, 42, 28, 29, 30, 31, 32, 33, 110, 111, 112, 113, 114, 99, 100, 101, 102, 103, 104, 105, 106, 107, 108, 109] rfl (by decide +kernel)
set_option maxRecDepth 20000 in
theorem gX4_rootTotalWith_X2_copyTo : GoodIn wsX4_rootTotalWith (wsV RX4 129 RX2 yX2_copyTo wsX2_copyTo) := goodIn_app (goodIn_r _ [80, 81, 82, 7] rfl (by decide +kernel)) ggX4_rootTotalWith_X2_copyTo
set_option maxRecDepth 20000 in
theorem ggX4_rootTotalWith_X3_total : GoodIn wsX4_rootTotalWith wsX3_total := goodIn_r _ [87, 25, 33, 110, 111, 112, 113, 114] rfl (by decide +kernel)
set_option maxRecDepth 20000 in
theorem gX4_rootTotalWith_X3_total : GoodIn wsX4_rootTotalWith (wsV RX4 176 RX3 yX3_total wsX3_total) := goodIn_app (goodIn_r _ [84, 85, 86, 23] rfl (by decide +kernel)) ggX4_rootTotalWith_X3_total
def dt_cX4_rootTotalWith_0 : List (Nat × Instr × Nat) := [(0, .aload_n 0, 1), (1, .getfield 12, 3), (4, .getfield 110, 3), (7, .iload_n 2, 1), (8, .iaload, 1), (9, .istore 4, 2), (11, .aload_n 0, 1), (12, .getfield 12, 3), (15, .getfield 110, 3), (18, .iload_n 2, 1), (19, .iload_n 3, 1), (20, .iastore, 1), (21, .aload_n 1, 1), (22, .iload_n 2, 1), (23, .iload_n 2, 1), (24, .iconst 1, 1), (25, .iadd, 1), (26, .invokevirtual 87, 3), (29, .pop, 1), (30, .aload_n 1, 1), (31, .aload_n 0, 1), (32, .getfield 35, 3), (35, .iconst 0, 1), (36, .invokevirtual 129, 3), (39, .aload_n 0, 1), (40, .getfield 35, 3), (43, .invokevirtual 176, 3), (46, .istore 5, 2), (48, .aload_n 0, 1), (49, .getfield 12, 3), (52, .getfield 110, 3), (55, .iload_n 2, 1), (56, .iload 4, 2), (58, .iastore, 1), (59, .aload_n 1, 1), (60, .iload_n 2, 1), (61, .iload_n 2, 1), (62, .iconst 1, 1), (63, .iadd, 1), (64, .invokevirtual 87, 3), (67, .pop, 1), (68, .iload 5, 2), (70, .ireturn, 1)]
theorem da_cX4_rootTotalWith_0 : dk_all cX4_rootTotalWith dt_cX4_rootTotalWith_0 = true := by decide +kernel
theorem dX4_rootTotalWith_0 : decode cX4_rootTotalWith 0 = .ok (.aload_n 0, 1) := dk_get _ da_cX4_rootTotalWith_0 0 _ _ _ rfl
theorem dX4_rootTotalWith_1 : decode cX4_rootTotalWith 1 = .ok (.getfield 12, 3) := dk_get _ da_cX4_rootTotalWith_0 1 _ _ _ rfl
theorem dX4_rootTotalWith_4 : decode cX4_rootTotalWith 4 = .ok (.getfield 110, 3) := dk_get _ da_cX4_rootTotalWith_0 2 _ _ _ rfl
theorem dX4_rootTotalWith_7 : decode cX4_rootTotalWith 7 = .ok (.iload_n 2, 1) := dk_get _ da_cX4_rootTotalWith_0 3 _ _ _ rfl
theorem dX4_rootTotalWith_8 : decode cX4_rootTotalWith 8 = .ok (.iaload, 1) := dk_get _ da_cX4_rootTotalWith_0 4 _ _ _ rfl
theorem dX4_rootTotalWith_9 : decode cX4_rootTotalWith 9 = .ok (.istore 4, 2) := dk_get _ da_cX4_rootTotalWith_0 5 _ _ _ rfl
theorem dX4_rootTotalWith_11 : decode cX4_rootTotalWith 11 = .ok (.aload_n 0, 1) := dk_get _ da_cX4_rootTotalWith_0 6 _ _ _ rfl
theorem dX4_rootTotalWith_12 : decode cX4_rootTotalWith 12 = .ok (.getfield 12, 3) := dk_get _ da_cX4_rootTotalWith_0 7 _ _ _ rfl
theorem dX4_rootTotalWith_15 : decode cX4_rootTotalWith 15 = .ok (.getfield 110, 3) := dk_get _ da_cX4_rootTotalWith_0 8 _ _ _ rfl
theorem dX4_rootTotalWith_18 : decode cX4_rootTotalWith 18 = .ok (.iload_n 2, 1) := dk_get _ da_cX4_rootTotalWith_0 9 _ _ _ rfl
theorem dX4_rootTotalWith_19 : decode cX4_rootTotalWith 19 = .ok (.iload_n 3, 1) := dk_get _ da_cX4_rootTotalWith_0 10 _ _ _ rfl
theorem dX4_rootTotalWith_20 : decode cX4_rootTotalWith 20 = .ok (.iastore, 1) := dk_get _ da_cX4_rootTotalWith_0 11 _ _ _ rfl
theorem dX4_rootTotalWith_21 : decode cX4_rootTotalWith 21 = .ok (.aload_n 1, 1) := dk_get _ da_cX4_rootTotalWith_0 12 _ _ _ rfl
theorem dX4_rootTotalWith_22 : decode cX4_rootTotalWith 22 = .ok (.iload_n 2, 1) := dk_get _ da_cX4_rootTotalWith_0 13 _ _ _ rfl
theorem dX4_rootTotalWith_23 : decode cX4_rootTotalWith 23 = .ok (.iload_n 2, 1) := dk_get _ da_cX4_rootTotalWith_0 14 _ _ _ rfl
theorem dX4_rootTotalWith_24 : decode cX4_rootTotalWith 24 = .ok (.iconst 1, 1) := dk_get _ da_cX4_rootTotalWith_0 15 _ _ _ rfl
theorem dX4_rootTotalWith_25 : decode cX4_rootTotalWith 25 = .ok (.iadd, 1) := dk_get _ da_cX4_rootTotalWith_0 16 _ _ _ rfl
theorem dX4_rootTotalWith_26 : decode cX4_rootTotalWith 26 = .ok (.invokevirtual 87, 3) := dk_get _ da_cX4_rootTotalWith_0 17 _ _ _ rfl
theorem dX4_rootTotalWith_29 : decode cX4_rootTotalWith 29 = .ok (.pop, 1) := dk_get _ da_cX4_rootTotalWith_0 18 _ _ _ rfl
theorem dX4_rootTotalWith_30 : decode cX4_rootTotalWith 30 = .ok (.aload_n 1, 1) := dk_get _ da_cX4_rootTotalWith_0 19 _ _ _ rfl
theorem dX4_rootTotalWith_31 : decode cX4_rootTotalWith 31 = .ok (.aload_n 0, 1) := dk_get _ da_cX4_rootTotalWith_0 20 _ _ _ rfl
theorem dX4_rootTotalWith_32 : decode cX4_rootTotalWith 32 = .ok (.getfield 35, 3) := dk_get _ da_cX4_rootTotalWith_0 21 _ _ _ rfl
theorem dX4_rootTotalWith_35 : decode cX4_rootTotalWith 35 = .ok (.iconst 0, 1) := dk_get _ da_cX4_rootTotalWith_0 22 _ _ _ rfl
theorem dX4_rootTotalWith_36 : decode cX4_rootTotalWith 36 = .ok (.invokevirtual 129, 3) := dk_get _ da_cX4_rootTotalWith_0 23 _ _ _ rfl
theorem dX4_rootTotalWith_39 : decode cX4_rootTotalWith 39 = .ok (.aload_n 0, 1) := dk_get _ da_cX4_rootTotalWith_0 24 _ _ _ rfl
theorem dX4_rootTotalWith_40 : decode cX4_rootTotalWith 40 = .ok (.getfield 35, 3) := dk_get _ da_cX4_rootTotalWith_0 25 _ _ _ rfl
theorem dX4_rootTotalWith_43 : decode cX4_rootTotalWith 43 = .ok (.invokevirtual 176, 3) := dk_get _ da_cX4_rootTotalWith_0 26 _ _ _ rfl
theorem dX4_rootTotalWith_46 : decode cX4_rootTotalWith 46 = .ok (.istore 5, 2) := dk_get _ da_cX4_rootTotalWith_0 27 _ _ _ rfl
theorem dX4_rootTotalWith_48 : decode cX4_rootTotalWith 48 = .ok (.aload_n 0, 1) := dk_get _ da_cX4_rootTotalWith_0 28 _ _ _ rfl
theorem dX4_rootTotalWith_49 : decode cX4_rootTotalWith 49 = .ok (.getfield 12, 3) := dk_get _ da_cX4_rootTotalWith_0 29 _ _ _ rfl
theorem dX4_rootTotalWith_52 : decode cX4_rootTotalWith 52 = .ok (.getfield 110, 3) := dk_get _ da_cX4_rootTotalWith_0 30 _ _ _ rfl
theorem dX4_rootTotalWith_55 : decode cX4_rootTotalWith 55 = .ok (.iload_n 2, 1) := dk_get _ da_cX4_rootTotalWith_0 31 _ _ _ rfl
theorem dX4_rootTotalWith_56 : decode cX4_rootTotalWith 56 = .ok (.iload 4, 2) := dk_get _ da_cX4_rootTotalWith_0 32 _ _ _ rfl
theorem dX4_rootTotalWith_58 : decode cX4_rootTotalWith 58 = .ok (.iastore, 1) := dk_get _ da_cX4_rootTotalWith_0 33 _ _ _ rfl
theorem dX4_rootTotalWith_59 : decode cX4_rootTotalWith 59 = .ok (.aload_n 1, 1) := dk_get _ da_cX4_rootTotalWith_0 34 _ _ _ rfl
theorem dX4_rootTotalWith_60 : decode cX4_rootTotalWith 60 = .ok (.iload_n 2, 1) := dk_get _ da_cX4_rootTotalWith_0 35 _ _ _ rfl
theorem dX4_rootTotalWith_61 : decode cX4_rootTotalWith 61 = .ok (.iload_n 2, 1) := dk_get _ da_cX4_rootTotalWith_0 36 _ _ _ rfl
theorem dX4_rootTotalWith_62 : decode cX4_rootTotalWith 62 = .ok (.iconst 1, 1) := dk_get _ da_cX4_rootTotalWith_0 37 _ _ _ rfl
theorem dX4_rootTotalWith_63 : decode cX4_rootTotalWith 63 = .ok (.iadd, 1) := dk_get _ da_cX4_rootTotalWith_0 38 _ _ _ rfl
theorem dX4_rootTotalWith_64 : decode cX4_rootTotalWith 64 = .ok (.invokevirtual 87, 3) := dk_get _ da_cX4_rootTotalWith_0 39 _ _ _ rfl
theorem dX4_rootTotalWith_67 : decode cX4_rootTotalWith 67 = .ok (.pop, 1) := dk_get _ da_cX4_rootTotalWith_0 40 _ _ _ rfl
theorem dX4_rootTotalWith_68 : decode cX4_rootTotalWith 68 = .ok (.iload 5, 2) := dk_get _ da_cX4_rootTotalWith_0 41 _ _ _ rfl
theorem dX4_rootTotalWith_70 : decode cX4_rootTotalWith 70 = .ok (.ireturn, 1) := dk_get _ da_cX4_rootTotalWith_0 42 _ _ _ rfl

