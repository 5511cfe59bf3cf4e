abbrev cX4_at : ByteArray := prog_1_method_11_code
def yX4_at : MethodName := ⟨RX4, "at", "(I)I"⟩
abbrev cX4_vote : ByteArray := prog_1_method_16_code
def yX4_vote : MethodName := ⟨RX4, "vote", "(IIII)I"⟩
abbrev cX4_candidate : ByteArray := prog_1_method_24_code
def yX4_candidate : MethodName := ⟨RX4, "candidate", "(IIII)I"⟩
abbrev cX4_heavyAt : ByteArray := prog_1_method_28_code
def yX4_heavyAt : MethodName := ⟨RX4, "heavyAt", "(IIIIII)I"⟩
def wsX4_at : List Cond := .code yX4_at cX4_at 2 (some .int) :: ([.classLink RX4 107 "java/util/NoSuchElementException", .initialized "java/util/NoSuchElementException", .fieldLink RX4 12 "MajorityIndex" "row" "LMajorityIndex$Row;", .fieldLink RX4 110 "MajorityIndex$Row" "cell" "[I", .methodLink RX4 64 yX0_hasPlace, .instanceMethod yX0_hasPlace, .selects RX0 yX0_hasPlace yX0_hasPlace, .initialized RX0, .code yX0_hasPlace cX0_hasPlace 2 (some .boolean), .fieldLink RX0 15 "MajorityIndex$Row" "length" "I"] ++ wsX40 ++ wsX00 ++ (vx_at0 RX4 109 "java/util/NoSuchElementException" ["java/lang/RuntimeException", "java/lang/Exception"]).filter goodWord)
def wsX4_vote_r1 : List Cond := [Cond.classLink RX4 107 "java/util/NoSuchElementException", Cond.initialized "java/util/NoSuchElementException", Cond.fieldLink RX4 12 "MajorityIndex" "row" "LMajorityIndex$Row;", Cond.fieldLink RX4 126 "MajorityIndex$Tree" "size" "[I", Cond.fieldLink RX4 35 "MajorityIndex" "votes" "LMajorityIndex$Votes;", Cond.fieldLink RX4 133 "MajorityIndex$Votes" "value" "[I", Cond.fieldLink RX4 136 "MajorityIndex$Votes" "number" "[I", Cond.methodLink RX4 79 yX0_hasRange, Cond.instanceMethod yX0_hasRange, Cond.selects RX0 yX0_hasRange yX0_hasRange, Cond.initialized RX0, Cond.code yX0_hasRange cX0_hasRange 3 (some .boolean), Cond.fieldLink RX0 15 "MajorityIndex$Row" "length" "I", Cond.methodLink RX4 71 yX4_laidTree, Cond.instanceMethod yX4_laidTree, Cond.selects RX4 yX4_laidTree yX4_laidTree, Cond.initialized RX4, Cond.code yX4_laidTree cX4_laidTree 1 (some (.object "MajorityIndex$Tree")), Cond.fieldLink RX4 53 "MajorityIndex" "treeIsOld" "Z", Cond.fieldLink RX4 21 "MajorityIndex" "tree" "LMajorityIndex$Tree;", Cond.fieldLink RX4 49 "MajorityIndex" "slotsNow" "I", Cond.fieldLink RX4 204 "MajorityIndex$Tree" "slotsHere" "I", Cond.fieldLink RX4 57 "MajorityIndex$Row" "length" "I", Cond.methodLink RX4 259 yX2_layRanges]
def wsX4_vote_r2 : List Cond := [Cond.instanceMethod yX2_layRanges, Cond.selects RX2 yX2_layRanges yX2_layRanges, Cond.initialized RX2, Cond.code yX2_layRanges cX2_layRanges 2 none, Cond.fieldLink RX2 40 "MajorityIndex$Tree" "row" "LMajorityIndex$Row;", Cond.fieldLink RX2 44 "MajorityIndex$Row" "length" "I", Cond.fieldLink RX2 50 "MajorityIndex$Tree" "nodes" "I", Cond.fieldLink RX2 18 "MajorityIndex$Tree" "from" "[I", Cond.fieldLink RX2 22 "MajorityIndex$Tree" "to" "[I", Cond.methodLink RX2 53 yX2_layBelow, Cond.instanceMethod yX2_layBelow, Cond.selects RX2 yX2_layBelow yX2_layBelow, Cond.code yX2_layBelow cX2_layBelow 4 none, Cond.methodLink RX2 57 yX2_rightBelow, Cond.instanceMethod yX2_rightBelow, Cond.selects RX2 yX2_rightBelow yX2_rightBelow, Cond.code yX2_rightBelow cX2_rightBelow 3 (some .int), Cond.methodLink RX4 87 yX2_renew, Cond.instanceMethod yX2_renew, Cond.selects RX2 yX2_renew yX2_renew, Cond.code yX2_renew cX2_renew 5 (some .int), Cond.methodLink RX2 61 yX2_putTogether, Cond.instanceMethod yX2_putTogether, Cond.selects RX2 yX2_putTogether yX2_putTogether]
def wsX4_vote_r3 : List Cond := [Cond.code yX2_putTogether cX2_putTogether 2 none, Cond.fieldLink RX2 12 "MajorityIndex$Tree" "joined" "LMajorityIndex$Votes;", Cond.fieldLink RX2 74 "MajorityIndex$Row" "cell" "[I", Cond.fieldLink RX2 85 "MajorityIndex$Tree" "slotsHere" "I", Cond.methodLink RX2 71 yX3_clear, Cond.instanceMethod yX3_clear, Cond.selects RX3 yX3_clear yX3_clear, Cond.initialized RX3, Cond.code yX3_clear cX3_clear 1 none, Cond.fieldLink RX3 18 "MajorityIndex$Votes" "size" "I", Cond.fieldLink RX3 22 "MajorityIndex$Votes" "lost" "I", Cond.fieldLink RX3 25 "MajorityIndex$Votes" "lessBy" "I", Cond.methodLink RX2 77 yX3_add, Cond.instanceMethod yX3_add, Cond.selects RX3 yX3_add yX3_add, Cond.code yX3_add cX3_add 4 none, Cond.fieldLink RX3 9 "MajorityIndex$Votes" "value" "[I", Cond.fieldLink RX3 15 "MajorityIndex$Votes" "number" "[I", Cond.methodLink RX2 81 yX2_joinNode, Cond.instanceMethod yX2_joinNode, Cond.selects RX2 yX2_joinNode yX2_joinNode, Cond.code yX2_joinNode cX2_joinNode 5 none, Cond.fieldLink RX2 25 "MajorityIndex$Tree" "size" "[I", Cond.fieldLink RX2 34 "MajorityIndex$Tree" "value" "[I"]
def wsX4_vote_r4 : List Cond := [Cond.fieldLink RX2 37 "MajorityIndex$Tree" "number" "[I", Cond.fieldLink RX2 91 "MajorityIndex$Votes" "lost" "I", Cond.fieldLink RX2 28 "MajorityIndex$Tree" "lossOf" "[I", Cond.methodLink RX2 88 yX3_cancel, Cond.instanceMethod yX3_cancel, Cond.selects RX3 yX3_cancel yX3_cancel, Cond.code yX3_cancel cX3_cancel 4 none, Cond.methodLink RX3 32 yX3_order, Cond.instanceMethod yX3_order, Cond.selects RX3 yX3_order yX3_order, Cond.code yX3_order cX3_order 3 none, Cond.methodLink RX3 35 yX3_isAhead, Cond.instanceMethod yX3_isAhead, Cond.selects RX3 yX3_isAhead yX3_isAhead, Cond.code yX3_isAhead cX3_isAhead 3 (some .boolean), Cond.methodLink RX3 39 yX3_exchange, Cond.instanceMethod yX3_exchange, Cond.selects RX3 yX3_exchange yX3_exchange, Cond.code yX3_exchange cX3_exchange 5 none, Cond.methodLink RX2 64 yX2_isJoined, Cond.instanceMethod yX2_isJoined, Cond.selects RX2 yX2_isJoined yX2_isJoined, Cond.code yX2_isJoined cX2_isJoined 4 (some .boolean), Cond.fieldLink RX2 94 "MajorityIndex$Votes" "size" "I"]
def wsX4_vote_r5 : List Cond := [Cond.fieldLink RX2 96 "MajorityIndex$Votes" "value" "[I", Cond.fieldLink RX2 97 "MajorityIndex$Votes" "number" "[I", Cond.methodLink RX2 68 yX2_keepJoined, Cond.instanceMethod yX2_keepJoined, Cond.selects RX2 yX2_keepJoined yX2_keepJoined, Cond.code yX2_keepJoined cX2_keepJoined 4 none, Cond.methodLink RX2 98 Lib.Math.min.name, Cond.static Lib.Math.min.name, Cond.initialized "java/lang/Math", Cond.code Lib.Math.min.name Lib.Math.min.code 2 (some .int), Cond.fieldLink RX2 31 "MajorityIndex$Tree" "lessBy" "[I", Cond.fieldLink RX2 104 "MajorityIndex$Votes" "lessBy" "I", Cond.methodLink RX4 123 yX2_find, Cond.instanceMethod yX2_find, Cond.selects RX2 yX2_find yX2_find, Cond.code yX2_find cX2_find 4 (some .int), Cond.methodLink RX4 129 yX2_copyTo, Cond.instanceMethod yX2_copyTo, Cond.selects RX2 yX2_copyTo yX2_copyTo, Cond.code yX2_copyTo cX2_copyTo 3 none]
def wsX4_vote : List Cond := .code yX4_vote cX4_vote 7 (some .int) :: ((wsX4_vote_r1 ++ (wsX4_vote_r2 ++ (wsX4_vote_r3 ++ (wsX4_vote_r4 ++ wsX4_vote_r5)))) ++ wsX40 ++ wsX20 ++ wsX30 ++ wsX00 ++ (vx_at0 RX4 109 "java/util/NoSuchElementException" ["java/lang/RuntimeException", "java/lang/Exception"]).filter goodWord)
def wsX4_candidate_r1 : List Cond := [Cond.classLink RX4 107 "java/util/NoSuchElementException", Cond.initialized "java/util/NoSuchElementException", Cond.fieldLink RX4 12 "MajorityIndex" "row" "LMajorityIndex$Row;", Cond.fieldLink RX4 35 "MajorityIndex" "votes" "LMajorityIndex$Votes;", Cond.fieldLink RX4 174 "MajorityIndex$Votes" "size" "I", Cond.fieldLink RX4 133 "MajorityIndex$Votes" "value" "[I", Cond.fieldLink RX4 136 "MajorityIndex$Votes" "number" "[I", Cond.methodLink RX4 79 yX0_hasRange, Cond.instanceMethod yX0_hasRange, Cond.selects RX0 yX0_hasRange yX0_hasRange, Cond.initialized RX0, Cond.code yX0_hasRange cX0_hasRange 3 (some .boolean), Cond.fieldLink RX0 15 "MajorityIndex$Row" "length" "I", Cond.methodLink RX4 71 yX4_laidTree, Cond.instanceMethod yX4_laidTree, Cond.selects RX4 yX4_laidTree yX4_laidTree, Cond.initialized RX4, Cond.code yX4_laidTree cX4_laidTree 1 (some (.object "MajorityIndex$Tree")), Cond.fieldLink RX4 53 "MajorityIndex" "treeIsOld" "Z", Cond.fieldLink RX4 21 "MajorityIndex" "tree" "LMajorityIndex$Tree;", Cond.fieldLink RX4 49 "MajorityIndex" "slotsNow" "I", Cond.fieldLink RX4 204 "MajorityIndex$Tree" "slotsHere" "I", Cond.fieldLink RX4 57 "MajorityIndex$Row" "length" "I", Cond.methodLink RX4 259 yX2_layRanges]
def wsX4_candidate_r2 : List Cond := [Cond.instanceMethod yX2_layRanges, Cond.selects RX2 yX2_layRanges yX2_layRanges, Cond.initialized RX2, Cond.code yX2_layRanges cX2_layRanges 2 none, Cond.fieldLink RX2 40 "MajorityIndex$Tree" "row" "LMajorityIndex$Row;", Cond.fieldLink RX2 44 "MajorityIndex$Row" "length" "I", Cond.fieldLink RX2 50 "MajorityIndex$Tree" "nodes" "I", Cond.fieldLink RX2 18 "MajorityIndex$Tree" "from" "[I", Cond.fieldLink RX2 22 "MajorityIndex$Tree" "to" "[I", Cond.methodLink RX2 53 yX2_layBelow, Cond.instanceMethod yX2_layBelow, Cond.selects RX2 yX2_layBelow yX2_layBelow, Cond.code yX2_layBelow cX2_layBelow 4 none, Cond.methodLink RX2 57 yX2_rightBelow, Cond.instanceMethod yX2_rightBelow, Cond.selects RX2 yX2_rightBelow yX2_rightBelow, Cond.code yX2_rightBelow cX2_rightBelow 3 (some .int), Cond.methodLink RX4 87 yX2_renew, Cond.instanceMethod yX2_renew, Cond.selects RX2 yX2_renew yX2_renew, Cond.code yX2_renew cX2_renew 5 (some .int), Cond.methodLink RX2 61 yX2_putTogether, Cond.instanceMethod yX2_putTogether, Cond.selects RX2 yX2_putTogether yX2_putTogether]
def wsX4_candidate_r3 : List Cond := [Cond.code yX2_putTogether cX2_putTogether 2 none, Cond.fieldLink RX2 12 "MajorityIndex$Tree" "joined" "LMajorityIndex$Votes;", Cond.fieldLink RX2 74 "MajorityIndex$Row" "cell" "[I", Cond.fieldLink RX2 85 "MajorityIndex$Tree" "slotsHere" "I", Cond.methodLink RX2 71 yX3_clear, Cond.instanceMethod yX3_clear, Cond.selects RX3 yX3_clear yX3_clear, Cond.initialized RX3, Cond.code yX3_clear cX3_clear 1 none, Cond.fieldLink RX3 18 "MajorityIndex$Votes" "size" "I", Cond.fieldLink RX3 22 "MajorityIndex$Votes" "lost" "I", Cond.fieldLink RX3 25 "MajorityIndex$Votes" "lessBy" "I", Cond.methodLink RX2 77 yX3_add, Cond.instanceMethod yX3_add, Cond.selects RX3 yX3_add yX3_add, Cond.code yX3_add cX3_add 4 none, Cond.fieldLink RX3 9 "MajorityIndex$Votes" "value" "[I", Cond.fieldLink RX3 15 "MajorityIndex$Votes" "number" "[I", Cond.methodLink RX2 81 yX2_joinNode, Cond.instanceMethod yX2_joinNode, Cond.selects RX2 yX2_joinNode yX2_joinNode, Cond.code yX2_joinNode cX2_joinNode 5 none, Cond.fieldLink RX2 25 "MajorityIndex$Tree" "size" "[I", Cond.fieldLink RX2 34 "MajorityIndex$Tree" "value" "[I"]
def wsX4_candidate_r4 : List Cond := [Cond.fieldLink RX2 37 "MajorityIndex$Tree" "number" "[I", Cond.fieldLink RX2 91 "MajorityIndex$Votes" "lost" "I", Cond.fieldLink RX2 28 "MajorityIndex$Tree" "lossOf" "[I", Cond.methodLink RX2 88 yX3_cancel, Cond.instanceMethod yX3_cancel, Cond.selects RX3 yX3_cancel yX3_cancel, Cond.code yX3_cancel cX3_cancel 4 none, Cond.methodLink RX3 32 yX3_order, Cond.instanceMethod yX3_order, Cond.selects RX3 yX3_order yX3_order, Cond.code yX3_order cX3_order 3 none, Cond.methodLink RX3 35 yX3_isAhead, Cond.instanceMethod yX3_isAhead, Cond.selects RX3 yX3_isAhead yX3_isAhead, Cond.code yX3_isAhead cX3_isAhead 3 (some .boolean), Cond.methodLink RX3 39 yX3_exchange, Cond.instanceMethod yX3_exchange, Cond.selects RX3 yX3_exchange yX3_exchange, Cond.code yX3_exchange cX3_exchange 5 none, Cond.methodLink RX2 64 yX2_isJoined, Cond.instanceMethod yX2_isJoined, Cond.selects RX2 yX2_isJoined yX2_isJoined, Cond.code yX2_isJoined cX2_isJoined 4 (some .boolean), Cond.fieldLink RX2 94 "MajorityIndex$Votes" "size" "I"]
def wsX4_candidate_r5 : List Cond := [Cond.fieldLink RX2 96 "MajorityIndex$Votes" "value" "[I", Cond.fieldLink RX2 97 "MajorityIndex$Votes" "number" "[I", Cond.methodLink RX2 68 yX2_keepJoined, Cond.instanceMethod yX2_keepJoined, Cond.selects RX2 yX2_keepJoined yX2_keepJoined, Cond.code yX2_keepJoined cX2_keepJoined 4 none, Cond.methodLink RX2 98 Lib.Math.min.name, Cond.static Lib.Math.min.name, Cond.initialized "java/lang/Math", Cond.code Lib.Math.min.name Lib.Math.min.code 2 (some .int), Cond.fieldLink RX2 31 "MajorityIndex$Tree" "lessBy" "[I", Cond.fieldLink RX2 104 "MajorityIndex$Votes" "lessBy" "I", Cond.methodLink RX4 170 yX2_gather, Cond.instanceMethod yX2_gather, Cond.selects RX2 yX2_gather yX2_gather, Cond.code yX2_gather cX2_gather 6 none, Cond.methodLink RX2 106 yX2_isPart, Cond.instanceMethod yX2_isPart, Cond.selects RX2 yX2_isPart yX2_isPart, Cond.code yX2_isPart cX2_isPart 4 (some .boolean), Cond.methodLink RX4 113 yX0_oftenIn, Cond.instanceMethod yX0_oftenIn, Cond.selects RX0 yX0_oftenIn yX0_oftenIn, Cond.code yX0_oftenIn cX0_oftenIn 6 (some .int)]
def wsX4_candidate_r6 : List Cond := [Cond.fieldLink RX0 9 "MajorityIndex$Row" "cell" "[I"]
def wsX4_candidate : List Cond := .code yX4_candidate cX4_candidate 5 (some .int) :: ((wsX4_candidate_r1 ++ (wsX4_candidate_r2 ++ (wsX4_candidate_r3 ++ (wsX4_candidate_r4 ++ (wsX4_candidate_r5 ++ wsX4_candidate_r6))))) ++ wsX40 ++ wsX30 ++ wsX00 ++ wsX20 ++ (vx_at0 RX4 109 "java/util/NoSuchElementException" ["java/lang/RuntimeException", "java/lang/Exception"]).filter goodWord)
def wsX4_heavyAt_r1 : List Cond := [Cond.classLink RX4 107 "java/util/NoSuchElementException", Cond.initialized "java/util/NoSuchElementException", Cond.fieldLink RX4 12 "MajorityIndex" "row" "LMajorityIndex$Row;", Cond.fieldLink RX4 35 "MajorityIndex" "votes" "LMajorityIndex$Votes;", Cond.fieldLink RX4 174 "MajorityIndex$Votes" "size" "I", Cond.fieldLink RX4 133 "MajorityIndex$Votes" "value" "[I", Cond.fieldLink RX4 136 "MajorityIndex$Votes" "number" "[I", Cond.methodLink RX4 79 yX0_hasRange, Cond.instanceMethod yX0_hasRange, Cond.selects RX0 yX0_hasRange yX0_hasRange, Cond.initialized RX0, Cond.code yX0_hasRange cX0_hasRange 3 (some .boolean), Cond.fieldLink RX0 15 "MajorityIndex$Row" "length" "I", Cond.methodLink RX4 186 yX4_isShare, Cond.static yX4_isShare, Cond.initialized RX4, Cond.code yX4_isShare cX4_isShare 2 (some .boolean), Cond.methodLink RX4 189 yX4_isEnough, Cond.instanceMethod yX4_isEnough, Cond.selects RX4 yX4_isEnough yX4_isEnough, Cond.code yX4_isEnough cX4_isEnough 3 (some .boolean), Cond.fieldLink RX4 49 "MajorityIndex" "slotsNow" "I", Cond.methodLink RX4 71 yX4_laidTree, Cond.instanceMethod yX4_laidTree]
def wsX4_heavyAt_r2 : List Cond := [Cond.selects RX4 yX4_laidTree yX4_laidTree, Cond.code yX4_laidTree cX4_laidTree 1 (some (.object "MajorityIndex$Tree")), Cond.fieldLink RX4 53 "MajorityIndex" "treeIsOld" "Z", Cond.fieldLink RX4 21 "MajorityIndex" "tree" "LMajorityIndex$Tree;", Cond.fieldLink RX4 204 "MajorityIndex$Tree" "slotsHere" "I", Cond.fieldLink RX4 57 "MajorityIndex$Row" "length" "I", Cond.methodLink RX4 259 yX2_layRanges, Cond.instanceMethod yX2_layRanges, Cond.selects RX2 yX2_layRanges yX2_layRanges, Cond.initialized RX2, Cond.code yX2_layRanges cX2_layRanges 2 none, Cond.fieldLink RX2 40 "MajorityIndex$Tree" "row" "LMajorityIndex$Row;", Cond.fieldLink RX2 44 "MajorityIndex$Row" "length" "I", Cond.fieldLink RX2 50 "MajorityIndex$Tree" "nodes" "I", Cond.fieldLink RX2 18 "MajorityIndex$Tree" "from" "[I", Cond.fieldLink RX2 22 "MajorityIndex$Tree" "to" "[I", Cond.methodLink RX2 53 yX2_layBelow, Cond.instanceMethod yX2_layBelow, Cond.selects RX2 yX2_layBelow yX2_layBelow, Cond.code yX2_layBelow cX2_layBelow 4 none, Cond.methodLink RX2 57 yX2_rightBelow, Cond.instanceMethod yX2_rightBelow, Cond.selects RX2 yX2_rightBelow yX2_rightBelow, Cond.code yX2_rightBelow cX2_rightBelow 3 (some .int)]
def wsX4_heavyAt_r3 : List Cond := [Cond.methodLink RX4 87 yX2_renew, Cond.instanceMethod yX2_renew, Cond.selects RX2 yX2_renew yX2_renew, Cond.code yX2_renew cX2_renew 5 (some .int), Cond.methodLink RX2 61 yX2_putTogether, Cond.instanceMethod yX2_putTogether, Cond.selects RX2 yX2_putTogether yX2_putTogether, Cond.code yX2_putTogether cX2_putTogether 2 none, Cond.fieldLink RX2 12 "MajorityIndex$Tree" "joined" "LMajorityIndex$Votes;", Cond.fieldLink RX2 74 "MajorityIndex$Row" "cell" "[I", Cond.fieldLink RX2 85 "MajorityIndex$Tree" "slotsHere" "I", Cond.methodLink RX2 71 yX3_clear, Cond.instanceMethod yX3_clear, Cond.selects RX3 yX3_clear yX3_clear, Cond.initialized RX3, Cond.code yX3_clear cX3_clear 1 none, Cond.fieldLink RX3 18 "MajorityIndex$Votes" "size" "I", Cond.fieldLink RX3 22 "MajorityIndex$Votes" "lost" "I", Cond.fieldLink RX3 25 "MajorityIndex$Votes" "lessBy" "I", Cond.methodLink RX2 77 yX3_add, Cond.instanceMethod yX3_add, Cond.selects RX3 yX3_add yX3_add, Cond.code yX3_add cX3_add 4 none, Cond.fieldLink RX3 9 "MajorityIndex$Votes" "value" "[I"]
def wsX4_heavyAt_r4 : List Cond := [Cond.fieldLink RX3 15 "MajorityIndex$Votes" "number" "[I", Cond.methodLink RX2 81 yX2_joinNode, Cond.instanceMethod yX2_joinNode, Cond.selects RX2 yX2_joinNode yX2_joinNode, Cond.code yX2_joinNode cX2_joinNode 5 none, Cond.fieldLink RX2 25 "MajorityIndex$Tree" "size" "[I", Cond.fieldLink RX2 34 "MajorityIndex$Tree" "value" "[I", Cond.fieldLink RX2 37 "MajorityIndex$Tree" "number" "[I", Cond.fieldLink RX2 91 "MajorityIndex$Votes" "lost" "I", Cond.fieldLink RX2 28 "MajorityIndex$Tree" "lossOf" "[I", Cond.methodLink RX2 88 yX3_cancel, Cond.instanceMethod yX3_cancel, Cond.selects RX3 yX3_cancel yX3_cancel, Cond.code yX3_cancel cX3_cancel 4 none, Cond.methodLink RX3 32 yX3_order, Cond.instanceMethod yX3_order, Cond.selects RX3 yX3_order yX3_order, Cond.code yX3_order cX3_order 3 none, Cond.methodLink RX3 35 yX3_isAhead, Cond.instanceMethod yX3_isAhead, Cond.selects RX3 yX3_isAhead yX3_isAhead, Cond.code yX3_isAhead cX3_isAhead 3 (some .boolean), Cond.methodLink RX3 39 yX3_exchange, Cond.instanceMethod yX3_exchange]
def wsX4_heavyAt_r5 : List Cond := [Cond.selects RX3 yX3_exchange yX3_exchange, Cond.code yX3_exchange cX3_exchange 5 none, Cond.methodLink RX2 64 yX2_isJoined, Cond.instanceMethod yX2_isJoined, Cond.selects RX2 yX2_isJoined yX2_isJoined, Cond.code yX2_isJoined cX2_isJoined 4 (some .boolean), Cond.fieldLink RX2 94 "MajorityIndex$Votes" "size" "I", Cond.fieldLink RX2 96 "MajorityIndex$Votes" "value" "[I", Cond.fieldLink RX2 97 "MajorityIndex$Votes" "number" "[I", Cond.methodLink RX2 68 yX2_keepJoined, Cond.instanceMethod yX2_keepJoined, Cond.selects RX2 yX2_keepJoined yX2_keepJoined, Cond.code yX2_keepJoined cX2_keepJoined 4 none, Cond.methodLink RX2 98 Lib.Math.min.name, Cond.static Lib.Math.min.name, Cond.initialized "java/lang/Math", Cond.code Lib.Math.min.name Lib.Math.min.code 2 (some .int), Cond.fieldLink RX2 31 "MajorityIndex$Tree" "lessBy" "[I", Cond.fieldLink RX2 104 "MajorityIndex$Votes" "lessBy" "I", Cond.methodLink RX4 192 yX4_gatherHeavy, Cond.instanceMethod yX4_gatherHeavy, Cond.selects RX4 yX4_gatherHeavy yX4_gatherHeavy, Cond.code yX4_gatherHeavy cX4_gatherHeavy 7 none, Cond.methodLink RX4 170 yX2_gather]
def wsX4_heavyAt_r6 : List Cond := [Cond.instanceMethod yX2_gather, Cond.selects RX2 yX2_gather yX2_gather, Cond.code yX2_gather cX2_gather 6 none, Cond.methodLink RX2 106 yX2_isPart, Cond.instanceMethod yX2_isPart, Cond.selects RX2 yX2_isPart yX2_isPart, Cond.code yX2_isPart cX2_isPart 4 (some .boolean), Cond.methodLink RX4 113 yX0_oftenIn, Cond.instanceMethod yX0_oftenIn, Cond.selects RX0 yX0_oftenIn yX0_oftenIn, Cond.code yX0_oftenIn cX0_oftenIn 6 (some .int), Cond.fieldLink RX0 9 "MajorityIndex$Row" "cell" "[I", Cond.methodLink RX4 262 yX3_keepHeavy, Cond.instanceMethod yX3_keepHeavy, Cond.selects RX3 yX3_keepHeavy yX3_keepHeavy, Cond.code yX3_keepHeavy cX3_keepHeavy 6 none, Cond.static yX4_isHeavy, Cond.code yX4_isHeavy cX4_isHeavy 4 (some .boolean)]
def wsX4_heavyAt : List Cond := .code yX4_heavyAt cX4_heavyAt 7 (some .int) :: ((wsX4_heavyAt_r1 ++ (wsX4_heavyAt_r2 ++ (wsX4_heavyAt_r3 ++ (wsX4_heavyAt_r4 ++ (wsX4_heavyAt_r5 ++ wsX4_heavyAt_r6))))) ++ wsX40 ++ wsX30 ++ wsX00 ++ wsX20 ++ (vx_at0 RX4 109 "java/util/NoSuchElementException" ["java/lang/RuntimeException", "java/lang/Exception"]).filter goodWord)
set_option maxRecDepth 20000 in
theorem ggX4_at_X0_hasPlace : GoodIn wsX4_at wsX0_hasPlace := goodIn_r _ [9, 10, 20, 21] rfl (by decide +kernel)
set_option maxRecDepth 20000 in
theorem gX4_at_X0_hasPlace : GoodIn wsX4_at (wsV RX4 64 RX0 yX0_hasPlace wsX0_hasPlace) := goodIn_app (goodIn_r _ [5, 6, 7, 8] rfl (by decide +kernel)) ggX4_at_X0_hasPlace
def dt_cX4_at_0 : List (Nat × Nat × Nat × Nat) := [(0, 42, 0, 0), (1, 180, 2, 12), (4, 27, 0, 0), (5, 182, 2, 64), (8, 154, 2, 11), (11, 187, 2, 107), (14, 89, 0, 0), (15, 183, 2, 109), (18, 191, 0, 0), (19, 42, 0, 0), (20, 180, 2, 12), (23, 180, 2, 110), (26, 27, 0, 0), (27, 46, 0, 0), (28, 172, 0, 0)]
theorem da_cX4_at_0 : fw dt_cX4_at_0 0 cX4_at.data.toList = true := by decide +kernel
theorem dX4_at_0 : decode cX4_at 0 = .ok (.aload_n 0, 1) := fo_42 (fw_get da_cX4_at_0 0 rfl)
theorem dX4_at_1 : decode cX4_at 1 = .ok (.getfield 12, 3) := fo_180 (fw_get da_cX4_at_0 1 rfl)
theorem dX4_at_4 : decode cX4_at 4 = .ok (.iload_n 1, 1) := fo_27 (fw_get da_cX4_at_0 2 rfl)
theorem dX4_at_5 : decode cX4_at 5 = .ok (.invokevirtual 64, 3) := fo_182 (fw_get da_cX4_at_0 3 rfl)
theorem dX4_at_8 : decode cX4_at 8 = .ok (.ifCond .ne 11, 3) := fo_154 (fw_get da_cX4_at_0 4 rfl) (by decide +kernel)
theorem dX4_at_11 : decode cX4_at 11 = .ok (.new 107, 3) := fo_187 (fw_get da_cX4_at_0 5 rfl)
theorem dX4_at_14 : decode cX4_at 14 = .ok (.dup, 1) := fo_89 (fw_get da_cX4_at_0 6 rfl)
theorem dX4_at_15 : decode cX4_at 15 = .ok (.invokespecial 109, 3) := fo_183 (fw_get da_cX4_at_0 7 rfl)
theorem dX4_at_18 : decode cX4_at 18 = .ok (.athrow, 1) := fo_191 (fw_get da_cX4_at_0 8 rfl)
theorem dX4_at_19 : decode cX4_at 19 = .ok (.aload_n 0, 1) := fo_42 (fw_get da_cX4_at_0 9 rfl)
theorem dX4_at_20 : decode cX4_at 20 = .ok (.getfield 12, 3) := fo_180 (fw_get da_cX4_at_0 10 rfl)
theorem dX4_at_23 : decode cX4_at 23 = .ok (.getfield 110, 3) := fo_180 (fw_get da_cX4_at_0 11 rfl)
theorem dX4_at_26 : decode cX4_at 26 = .ok (.iload_n 1, 1) := fo_27 (fw_get da_cX4_at_0 12 rfl)
theorem dX4_at_27 : decode cX4_at 27 = .ok (.iaload, 1) := fo_46 (fw_get da_cX4_at_0 13 rfl)
theorem dX4_at_28 : decode cX4_at 28 = .ok (.ireturn, 1) := fo_172 (fw_get da_cX4_at_0 14 rfl)
set_option maxRecDepth 20000 in
theorem ggX4_vote_X0_hasRange : GoodIn wsX4_vote wsX0_hasRange := goodIn_r _ [12, 13, 142, 143] rfl (by decide +kernel)
set_option maxRecDepth 20000 in
theorem gX4_vote_X0_hasRange : GoodIn wsX4_vote (wsV RX4 79 RX0 yX0_hasRange wsX0_hasRange) := goodIn_app (goodIn_r _ [8, 9, 10, 11] rfl (by decide +kernel)) ggX4_vote_X0_hasRange
set_option maxRecDepth 20000 in
theorem ggX4_vote_X4_laidTree : GoodIn wsX4_vote wsX4_laidTree := goodIn_r _ [18, 19, 20, 21, 22, 3, 23, 24, 25, 26, 27, 28, 29, 30, 31, 32, 33, 34, 35, 36, 37, 38, 39, 40, 41, 42, 43, 44, 45, 46, 47, 48, 49, 50, 51, 52, 53, 54, 55, 56, 57, 58, 59, 60, 61, 62, 63, 64, 65, 66, 67, 68, 69, 70, 71, 72, 73, 74, 75, 76, 77, 78, 79, 80, 81, 82, 83, 84, 85, 86, 87, 88, 89, 90, 91, 92, 93, 94, 95, 96, 97, 98, 99, 100, 101, 102, 103, 104, 105, 106, 107, 108, 117, 118, 119, 120, 121, 122, 123, 124, 125, 126, 127, 128, 129, 130, 131, 132, 133, 134, 135, 136, 142, 143, 137, 138, 139, 140, 141] rfl (by decide +kernel)
set_option maxRecDepth 20000 in
theorem gX4_vote_X4_laidTree : GoodIn wsX4_vote (wsV RX4 71 RX4 yX4_laidTree wsX4_laidTree) := goodIn_app (goodIn_r _ [14, 15, 16, 17] rfl (by decide +kernel)) ggX4_vote_X4_laidTree
set_option maxRecDepth 20000 in
theorem ggX4_vote_X2_find : GoodIn wsX4_vote wsX2_find := goodIn_r _ [112, 31, 32, 33, 126, 127, 128, 129, 130, 131, 132, 133, 134, 135, 136] rfl (by decide +kernel)
set_option maxRecDepth 20000 in
theorem gX4_vote_X2_find : GoodIn wsX4_vote (wsV RX4 123 RX2 yX2_find wsX2_find) := goodIn_app (goodIn_r _ [109, 110, 111, 27] rfl (by decide +kernel)) ggX4_vote_X2_find
set_option maxRecDepth 20000 in
theorem ggX4_vote_X2_copyTo : GoodIn wsX4_vote wsX2_copyTo := goodIn_r _ [116, 53, 54, 55, 56, 57, 58, 59, 60, 67, 68, 69, 27, 70, 71, 72, 73, 74, 75, 61, 62, 63, 64, 65, 66, 137, 138, 139, 140, 141, 126, 127, 128, 129, 130, 131, 132, 133, 134, 135, 136] rfl (by decide +kernel)
set_option maxRecDepth 20000 in
theorem gX4_vote_X2_copyTo : GoodIn wsX4_vote (wsV RX4 129 RX2 yX2_copyTo wsX2_copyTo) := goodIn_app (goodIn_r _ [113, 114, 115, 27] rfl (by decide +kernel)) ggX4_vote_X2_copyTo
def dt_cX4_vote_0 : List (Nat × Nat × Nat × Nat) := [(0, 42, 0, 0), (1, 180, 2, 12), (4, 27, 0, 0), (5, 28, 0, 0), (6, 182, 2, 79), (9, 153, 2, 14), (12, 21, 1, 4), (14, 155, 2, 9), (17, 21, 1, 4), (19, 4, 0, 0), (20, 164, 2, 11), (23, 187, 2, 107), (26, 89, 0, 0), (27, 183, 2, 109), (30, 191, 0, 0), (31, 42, 0, 0), (32, 182, 2, 71), (35, 58, 1, 5), (37, 25, 1, 5), (39, 27, 0, 0)]
theorem da_cX4_vote_0 : fw dt_cX4_vote_0 0 cX4_vote.data.toList = true := by decide +kernel
theorem dX4_vote_0 : decode cX4_vote 0 = .ok (.aload_n 0, 1) := fo_42 (fw_get da_cX4_vote_0 0 rfl)
theorem dX4_vote_1 : decode cX4_vote 1 = .ok (.getfield 12, 3) := fo_180 (fw_get da_cX4_vote_0 1 rfl)
theorem dX4_vote_4 : decode cX4_vote 4 = .ok (.iload_n 1, 1) := fo_27 (fw_get da_cX4_vote_0 2 rfl)
theorem dX4_vote_5 : decode cX4_vote 5 = .ok (.iload_n 2, 1) := fo_28 (fw_get da_cX4_vote_0 3 rfl)
theorem dX4_vote_6 : decode cX4_vote 6 = .ok (.invokevirtual 79, 3) := fo_182 (fw_get da_cX4_vote_0 4 rfl)
theorem dX4_vote_9 : decode cX4_vote 9 = .ok (.ifCond .eq 14, 3) := fo_153 (fw_get da_cX4_vote_0 5 rfl) (by decide +kernel)
theorem dX4_vote_12 : decode cX4_vote 12 = .ok (.iload 4, 2) := fo_21 (fw_get da_cX4_vote_0 6 rfl)
theorem dX4_vote_14 : decode cX4_vote 14 = .ok (.ifCond .lt 9, 3) := fo_155 (fw_get da_cX4_vote_0 7 rfl) (by decide +kernel)
theorem dX4_vote_17 : decode cX4_vote 17 = .ok (.iload 4, 2) := fo_21 (fw_get da_cX4_vote_0 8 rfl)
theorem dX4_vote_19 : decode cX4_vote 19 = .ok (.iconst 1, 1) := fo_4 (fw_get da_cX4_vote_0 9 rfl)
theorem dX4_vote_20 : decode cX4_vote 20 = .ok (.if_icmp .le 11, 3) := fo_164 (fw_get da_cX4_vote_0 10 rfl) (by decide +kernel)
theorem dX4_vote_23 : decode cX4_vote 23 = .ok (.new 107, 3) := fo_187 (fw_get da_cX4_vote_0 11 rfl)
theorem dX4_vote_26 : decode cX4_vote 26 = .ok (.dup, 1) := fo_89 (fw_get da_cX4_vote_0 12 rfl)
theorem dX4_vote_27 : decode cX4_vote 27 = .ok (.invokespecial 109, 3) := fo_183 (fw_get da_cX4_vote_0 13 rfl)
theorem dX4_vote_30 : decode cX4_vote 30 = .ok (.athrow, 1) := fo_191 (fw_get da_cX4_vote_0 14 rfl)
theorem dX4_vote_31 : decode cX4_vote 31 = .ok (.aload_n 0, 1) := fo_42 (fw_get da_cX4_vote_0 15 rfl)
theorem dX4_vote_32 : decode cX4_vote 32 = .ok (.invokevirtual 71, 3) := fo_182 (fw_get da_cX4_vote_0 16 rfl)
theorem dX4_vote_35 : decode cX4_vote 35 = .ok (.astore 5, 2) := fo_58 (fw_get da_cX4_vote_0 17 rfl)
theorem dX4_vote_37 : decode cX4_vote 37 = .ok (.aload 5, 2) := fo_25 (fw_get da_cX4_vote_0 18 rfl)
theorem dX4_vote_39 : decode cX4_vote 39 = .ok (.iload_n 1, 1) := fo_27 (fw_get da_cX4_vote_0 19 rfl)
def dt_cX4_vote_1 : List (Nat × Nat × Nat × Nat) := [(40, 28, 0, 0), (41, 182, 2, 123), (44, 54, 1, 6), (46, 21, 1, 6), (48, 2, 0, 0), (49, 159, 2, 19), (52, 29, 0, 0), (53, 155, 2, 15), (56, 29, 0, 0), (57, 25, 1, 5), (59, 180, 2, 126), (62, 21, 1, 6), (64, 46, 0, 0), (65, 161, 2, 11), (68, 187, 2, 107), (71, 89, 0, 0), (72, 183, 2, 109), (75, 191, 0, 0), (76, 25, 1, 5), (78, 42, 0, 0)]
theorem da_cX4_vote_1 : fw dt_cX4_vote_1 0 cX4_vote.data.toList = true := by decide +kernel
theorem dX4_vote_40 : decode cX4_vote 40 = .ok (.iload_n 2, 1) := fo_28 (fw_get da_cX4_vote_1 0 rfl)
theorem dX4_vote_41 : decode cX4_vote 41 = .ok (.invokevirtual 123, 3) := fo_182 (fw_get da_cX4_vote_1 1 rfl)
theorem dX4_vote_44 : decode cX4_vote 44 = .ok (.istore 6, 2) := fo_54 (fw_get da_cX4_vote_1 2 rfl)
theorem dX4_vote_46 : decode cX4_vote 46 = .ok (.iload 6, 2) := fo_21 (fw_get da_cX4_vote_1 3 rfl)
theorem dX4_vote_48 : decode cX4_vote 48 = .ok (.iconst (-1), 1) := fo_2 (fw_get da_cX4_vote_1 4 rfl)
theorem dX4_vote_49 : decode cX4_vote 49 = .ok (.if_icmp .eq 19, 3) := fo_159 (fw_get da_cX4_vote_1 5 rfl) (by decide +kernel)
theorem dX4_vote_52 : decode cX4_vote 52 = .ok (.iload_n 3, 1) := fo_29 (fw_get da_cX4_vote_1 6 rfl)
theorem dX4_vote_53 : decode cX4_vote 53 = .ok (.ifCond .lt 15, 3) := fo_155 (fw_get da_cX4_vote_1 7 rfl) (by decide +kernel)
theorem dX4_vote_56 : decode cX4_vote 56 = .ok (.iload_n 3, 1) := fo_29 (fw_get da_cX4_vote_1 8 rfl)
theorem dX4_vote_57 : decode cX4_vote 57 = .ok (.aload 5, 2) := fo_25 (fw_get da_cX4_vote_1 9 rfl)
theorem dX4_vote_59 : decode cX4_vote 59 = .ok (.getfield 126, 3) := fo_180 (fw_get da_cX4_vote_1 10 rfl)
theorem dX4_vote_62 : decode cX4_vote 62 = .ok (.iload 6, 2) := fo_21 (fw_get da_cX4_vote_1 11 rfl)
theorem dX4_vote_64 : decode cX4_vote 64 = .ok (.iaload, 1) := fo_46 (fw_get da_cX4_vote_1 12 rfl)
theorem dX4_vote_65 : decode cX4_vote 65 = .ok (.if_icmp .lt 11, 3) := fo_161 (fw_get da_cX4_vote_1 13 rfl) (by decide +kernel)
theorem dX4_vote_68 : decode cX4_vote 68 = .ok (.new 107, 3) := fo_187 (fw_get da_cX4_vote_1 14 rfl)
theorem dX4_vote_71 : decode cX4_vote 71 = .ok (.dup, 1) := fo_89 (fw_get da_cX4_vote_1 15 rfl)
theorem dX4_vote_72 : decode cX4_vote 72 = .ok (.invokespecial 109, 3) := fo_183 (fw_get da_cX4_vote_1 16 rfl)
theorem dX4_vote_75 : decode cX4_vote 75 = .ok (.athrow, 1) := fo_191 (fw_get da_cX4_vote_1 17 rfl)
theorem dX4_vote_76 : decode cX4_vote 76 = .ok (.aload 5, 2) := fo_25 (fw_get da_cX4_vote_1 18 rfl)
theorem dX4_vote_78 : decode cX4_vote 78 = .ok (.aload_n 0, 1) := fo_42 (fw_get da_cX4_vote_1 19 rfl)
def dt_cX4_vote_2 : List (Nat × Nat × Nat × Nat) := [(79, 180, 2, 35), (82, 21, 1, 6), (84, 182, 2, 129), (87, 21, 1, 4), (89, 154, 2, 15), (92, 42, 0, 0), (93, 180, 2, 35), (96, 180, 2, 133), (99, 29, 0, 0), (100, 46, 0, 0), (101, 167, 2, 12), (104, 42, 0, 0), (105, 180, 2, 35), (108, 180, 2, 136), (111, 29, 0, 0), (112, 46, 0, 0), (113, 172, 0, 0)]
theorem da_cX4_vote_2 : fw dt_cX4_vote_2 0 cX4_vote.data.toList = true := by decide +kernel
theorem dX4_vote_79 : decode cX4_vote 79 = .ok (.getfield 35, 3) := fo_180 (fw_get da_cX4_vote_2 0 rfl)
theorem dX4_vote_82 : decode cX4_vote 82 = .ok (.iload 6, 2) := fo_21 (fw_get da_cX4_vote_2 1 rfl)
theorem dX4_vote_84 : decode cX4_vote 84 = .ok (.invokevirtual 129, 3) := fo_182 (fw_get da_cX4_vote_2 2 rfl)
theorem dX4_vote_87 : decode cX4_vote 87 = .ok (.iload 4, 2) := fo_21 (fw_get da_cX4_vote_2 3 rfl)
theorem dX4_vote_89 : decode cX4_vote 89 = .ok (.ifCond .ne 15, 3) := fo_154 (fw_get da_cX4_vote_2 4 rfl) (by decide +kernel)
theorem dX4_vote_92 : decode cX4_vote 92 = .ok (.aload_n 0, 1) := fo_42 (fw_get da_cX4_vote_2 5 rfl)
theorem dX4_vote_93 : decode cX4_vote 93 = .ok (.getfield 35, 3) := fo_180 (fw_get da_cX4_vote_2 6 rfl)
theorem dX4_vote_96 : decode cX4_vote 96 = .ok (.getfield 133, 3) := fo_180 (fw_get da_cX4_vote_2 7 rfl)
theorem dX4_vote_99 : decode cX4_vote 99 = .ok (.iload_n 3, 1) := fo_29 (fw_get da_cX4_vote_2 8 rfl)
theorem dX4_vote_100 : decode cX4_vote 100 = .ok (.iaload, 1) := fo_46 (fw_get da_cX4_vote_2 9 rfl)
theorem dX4_vote_101 : decode cX4_vote 101 = .ok (.goto 12, 3) := fo_167 (fw_get da_cX4_vote_2 10 rfl) (by decide +kernel)
theorem dX4_vote_104 : decode cX4_vote 104 = .ok (.aload_n 0, 1) := fo_42 (fw_get da_cX4_vote_2 11 rfl)
theorem dX4_vote_105 : decode cX4_vote 105 = .ok (.getfield 35, 3) := fo_180 (fw_get da_cX4_vote_2 12 rfl)
theorem dX4_vote_108 : decode cX4_vote 108 = .ok (.getfield 136, 3) := fo_180 (fw_get da_cX4_vote_2 13 rfl)
theorem dX4_vote_111 : decode cX4_vote 111 = .ok (.iload_n 3, 1) := fo_29 (fw_get da_cX4_vote_2 14 rfl)
theorem dX4_vote_112 : decode cX4_vote 112 = .ok (.iaload, 1) := fo_46 (fw_get da_cX4_vote_2 15 rfl)
theorem dX4_vote_113 : decode cX4_vote 113 = .ok (.ireturn, 1) := fo_172 (fw_get da_cX4_vote_2 16 rfl)
set_option maxRecDepth 20000 in
theorem ggX4_candidate_X0_hasRange : GoodIn wsX4_candidate wsX0_hasRange := goodIn_r _ [12, 13, 136, 137] rfl (by decide +kernel)
set_option maxRecDepth 20000 in
theorem gX4_candidate_X0_hasRange : GoodIn wsX4_candidate (wsV RX4 79 RX0 yX0_hasRange wsX0_hasRange) := goodIn_app (goodIn_r _ [8, 9, 10, 11] rfl (by decide +kernel)) ggX4_candidate_X0_hasRange
set_option maxRecDepth 20000 in
theorem ggX4_candidate_X4_laidTree : GoodIn wsX4_candidate wsX4_laidTree := goodIn_r _ [18, 19, 20, 21, 22, 3, 23, 24, 25, 26, 27, 28, 29, 30, 31, 32, 33, 34, 35, 36, 37, 38, 39, 40, 41, 42, 43, 44, 45, 46, 47, 48, 49, 50, 51, 52, 53, 54, 55, 56, 57, 58, 59, 60, 61, 62, 63, 64, 65, 66, 67, 68, 69, 70, 71, 72, 73, 74, 75, 76, 77, 78, 79, 80, 81, 82, 83, 84, 85, 86, 87, 88, 89, 90, 91, 92, 93, 94, 95, 96, 97, 98, 99, 100, 101, 102, 103, 104, 105, 106, 107, 108, 122, 123, 124, 125, 126, 127, 128, 129, 130, 138, 139, 140, 141, 142, 143, 144, 145, 146, 147, 148, 136, 137, 131, 132, 133, 134, 135] rfl (by decide +kernel)
set_option maxRecDepth 20000 in
theorem gX4_candidate_X4_laidTree : GoodIn wsX4_candidate (wsV RX4 71 RX4 yX4_laidTree wsX4_laidTree) := goodIn_app (goodIn_r _ [14, 15, 16, 17] rfl (by decide +kernel)) ggX4_candidate_X4_laidTree
set_option maxRecDepth 20000 in
theorem ggX4_candidate_X2_gather : GoodIn wsX4_candidate wsX2_gather := goodIn_r _ [112, 31, 33, 52, 53, 54, 55, 56, 57, 58, 59, 60, 113, 114, 115, 27, 116, 32, 67, 68, 69, 70, 71, 72, 73, 74, 75, 61, 62, 63, 64, 65, 66, 76, 77, 78, 79, 80, 81, 82, 83, 84, 85, 86, 87, 88, 89, 90, 91, 138, 139, 140, 141, 142, 143, 144, 145, 146, 147, 148, 131, 132, 133, 134, 135] rfl (by decide +kernel)
set_option maxRecDepth 20000 in
theorem gX4_candidate_X2_gather : GoodIn wsX4_candidate (wsV RX4 170 RX2 yX2_gather wsX2_gather) := goodIn_app (goodIn_r _ [109, 110, 111, 27] rfl (by decide +kernel)) ggX4_candidate_X2_gather
set_option maxRecDepth 20000 in
theorem ggX4_candidate_X0_oftenIn : GoodIn wsX4_candidate wsX0_oftenIn := goodIn_r _ [120, 121, 136, 137] rfl (by decide +kernel)
set_option maxRecDepth 20000 in
theorem gX4_candidate_X0_oftenIn : GoodIn wsX4_candidate (wsV RX4 113 RX0 yX0_oftenIn wsX0_oftenIn) := goodIn_app (goodIn_r _ [117, 118, 119, 11] rfl (by decide +kernel)) ggX4_candidate_X0_oftenIn
def dt_cX4_candidate_0 : List (Nat × Nat × Nat × Nat) := [(0, 42, 0, 0), (1, 180, 2, 12), (4, 27, 0, 0), (5, 28, 0, 0), (6, 182, 2, 79), (9, 153, 2, 18), (12, 29, 0, 0), (13, 155, 2, 14), (16, 21, 1, 4), (18, 155, 2, 9), (21, 21, 1, 4), (23, 5, 0, 0), (24, 164, 2, 11), (27, 187, 2, 107), (30, 89, 0, 0), (31, 183, 2, 109), (34, 191, 0, 0), (35, 42, 0, 0), (36, 182, 2, 71), (39, 42, 0, 0)]
theorem da_cX4_candidate_0 : fw dt_cX4_candidate_0 0 cX4_candidate.data.toList = true := by decide +kernel
theorem dX4_candidate_0 : decode cX4_candidate 0 = .ok (.aload_n 0, 1) := fo_42 (fw_get da_cX4_candidate_0 0 rfl)
theorem dX4_candidate_1 : decode cX4_candidate 1 = .ok (.getfield 12, 3) := fo_180 (fw_get da_cX4_candidate_0 1 rfl)
theorem dX4_candidate_4 : decode cX4_candidate 4 = .ok (.iload_n 1, 1) := fo_27 (fw_get da_cX4_candidate_0 2 rfl)
theorem dX4_candidate_5 : decode cX4_candidate 5 = .ok (.iload_n 2, 1) := fo_28 (fw_get da_cX4_candidate_0 3 rfl)
theorem dX4_candidate_6 : decode cX4_candidate 6 = .ok (.invokevirtual 79, 3) := fo_182 (fw_get da_cX4_candidate_0 4 rfl)
theorem dX4_candidate_9 : decode cX4_candidate 9 = .ok (.ifCond .eq 18, 3) := fo_153 (fw_get da_cX4_candidate_0 5 rfl) (by decide +kernel)
theorem dX4_candidate_12 : decode cX4_candidate 12 = .ok (.iload_n 3, 1) := fo_29 (fw_get da_cX4_candidate_0 6 rfl)
theorem dX4_candidate_13 : decode cX4_candidate 13 = .ok (.ifCond .lt 14, 3) := fo_155 (fw_get da_cX4_candidate_0 7 rfl) (by decide +kernel)
theorem dX4_candidate_16 : decode cX4_candidate 16 = .ok (.iload 4, 2) := fo_21 (fw_get da_cX4_candidate_0 8 rfl)
theorem dX4_candidate_18 : decode cX4_candidate 18 = .ok (.ifCond .lt 9, 3) := fo_155 (fw_get da_cX4_candidate_0 9 rfl) (by decide +kernel)
theorem dX4_candidate_21 : decode cX4_candidate 21 = .ok (.iload 4, 2) := fo_21 (fw_get da_cX4_candidate_0 10 rfl)
theorem dX4_candidate_23 : decode cX4_candidate 23 = .ok (.iconst 2, 1) := fo_5 (fw_get da_cX4_candidate_0 11 rfl)
theorem dX4_candidate_24 : decode cX4_candidate 24 = .ok (.if_icmp .le 11, 3) := fo_164 (fw_get da_cX4_candidate_0 12 rfl) (by decide +kernel)
theorem dX4_candidate_27 : decode cX4_candidate 27 = .ok (.new 107, 3) := fo_187 (fw_get da_cX4_candidate_0 13 rfl)
theorem dX4_candidate_30 : decode cX4_candidate 30 = .ok (.dup, 1) := fo_89 (fw_get da_cX4_candidate_0 14 rfl)
theorem dX4_candidate_31 : decode cX4_candidate 31 = .ok (.invokespecial 109, 3) := fo_183 (fw_get da_cX4_candidate_0 15 rfl)
theorem dX4_candidate_34 : decode cX4_candidate 34 = .ok (.athrow, 1) := fo_191 (fw_get da_cX4_candidate_0 16 rfl)
theorem dX4_candidate_35 : decode cX4_candidate 35 = .ok (.aload_n 0, 1) := fo_42 (fw_get da_cX4_candidate_0 17 rfl)
theorem dX4_candidate_36 : decode cX4_candidate 36 = .ok (.invokevirtual 71, 3) := fo_182 (fw_get da_cX4_candidate_0 18 rfl)
theorem dX4_candidate_39 : decode cX4_candidate 39 = .ok (.aload_n 0, 1) := fo_42 (fw_get da_cX4_candidate_0 19 rfl)
def dt_cX4_candidate_1 : List (Nat × Nat × Nat × Nat) := [(40, 180, 2, 35), (43, 27, 0, 0), (44, 28, 0, 0), (45, 182, 2, 170), (48, 29, 0, 0), (49, 42, 0, 0), (50, 180, 2, 35), (53, 180, 2, 174), (56, 161, 2, 11), (59, 187, 2, 107), (62, 89, 0, 0), (63, 183, 2, 109), (66, 191, 0, 0), (67, 21, 1, 4)]
theorem da_cX4_candidate_1 : fw dt_cX4_candidate_1 0 cX4_candidate.data.toList = true := by decide +kernel
theorem dX4_candidate_40 : decode cX4_candidate 40 = .ok (.getfield 35, 3) := fo_180 (fw_get da_cX4_candidate_1 0 rfl)
theorem dX4_candidate_43 : decode cX4_candidate 43 = .ok (.iload_n 1, 1) := fo_27 (fw_get da_cX4_candidate_1 1 rfl)
theorem dX4_candidate_44 : decode cX4_candidate 44 = .ok (.iload_n 2, 1) := fo_28 (fw_get da_cX4_candidate_1 2 rfl)
theorem dX4_candidate_45 : decode cX4_candidate 45 = .ok (.invokevirtual 170, 3) := fo_182 (fw_get da_cX4_candidate_1 3 rfl)
theorem dX4_candidate_48 : decode cX4_candidate 48 = .ok (.iload_n 3, 1) := fo_29 (fw_get da_cX4_candidate_1 4 rfl)
theorem dX4_candidate_49 : decode cX4_candidate 49 = .ok (.aload_n 0, 1) := fo_42 (fw_get da_cX4_candidate_1 5 rfl)
theorem dX4_candidate_50 : decode cX4_candidate 50 = .ok (.getfield 35, 3) := fo_180 (fw_get da_cX4_candidate_1 6 rfl)
theorem dX4_candidate_53 : decode cX4_candidate 53 = .ok (.getfield 174, 3) := fo_180 (fw_get da_cX4_candidate_1 7 rfl)
theorem dX4_candidate_56 : decode cX4_candidate 56 = .ok (.if_icmp .lt 11, 3) := fo_161 (fw_get da_cX4_candidate_1 8 rfl) (by decide +kernel)
theorem dX4_candidate_59 : decode cX4_candidate 59 = .ok (.new 107, 3) := fo_187 (fw_get da_cX4_candidate_1 9 rfl)
theorem dX4_candidate_62 : decode cX4_candidate 62 = .ok (.dup, 1) := fo_89 (fw_get da_cX4_candidate_1 10 rfl)
theorem dX4_candidate_63 : decode cX4_candidate 63 = .ok (.invokespecial 109, 3) := fo_183 (fw_get da_cX4_candidate_1 11 rfl)
theorem dX4_candidate_66 : decode cX4_candidate 66 = .ok (.athrow, 1) := fo_191 (fw_get da_cX4_candidate_1 12 rfl)
theorem dX4_candidate_67 : decode cX4_candidate 67 = .ok (.iload 4, 2) := fo_21 (fw_get da_cX4_candidate_1 13 rfl)
theorem dX4_candidate_69 : decode cX4_candidate 69 = .ok (.lookupswitch 47 #[(0, 27), (1, 37)], 27) := by decide +kernel
def dt_cX4_candidate_2 : List (Nat × Nat × Nat × Nat) := [(96, 42, 0, 0), (97, 180, 2, 35), (100, 180, 2, 133), (103, 29, 0, 0), (104, 46, 0, 0), (105, 172, 0, 0), (106, 42, 0, 0), (107, 180, 2, 35), (110, 180, 2, 136), (113, 29, 0, 0), (114, 46, 0, 0), (115, 172, 0, 0), (116, 42, 0, 0), (117, 180, 2, 12), (120, 42, 0, 0), (121, 180, 2, 35), (124, 180, 2, 133), (127, 29, 0, 0), (128, 46, 0, 0), (129, 27, 0, 0)]
theorem da_cX4_candidate_2 : fw dt_cX4_candidate_2 0 cX4_candidate.data.toList = true := by decide +kernel
theorem dX4_candidate_96 : decode cX4_candidate 96 = .ok (.aload_n 0, 1) := fo_42 (fw_get da_cX4_candidate_2 0 rfl)
theorem dX4_candidate_97 : decode cX4_candidate 97 = .ok (.getfield 35, 3) := fo_180 (fw_get da_cX4_candidate_2 1 rfl)
theorem dX4_candidate_100 : decode cX4_candidate 100 = .ok (.getfield 133, 3) := fo_180 (fw_get da_cX4_candidate_2 2 rfl)
theorem dX4_candidate_103 : decode cX4_candidate 103 = .ok (.iload_n 3, 1) := fo_29 (fw_get da_cX4_candidate_2 3 rfl)
theorem dX4_candidate_104 : decode cX4_candidate 104 = .ok (.iaload, 1) := fo_46 (fw_get da_cX4_candidate_2 4 rfl)
theorem dX4_candidate_105 : decode cX4_candidate 105 = .ok (.ireturn, 1) := fo_172 (fw_get da_cX4_candidate_2 5 rfl)
theorem dX4_candidate_106 : decode cX4_candidate 106 = .ok (.aload_n 0, 1) := fo_42 (fw_get da_cX4_candidate_2 6 rfl)
theorem dX4_candidate_107 : decode cX4_candidate 107 = .ok (.getfield 35, 3) := fo_180 (fw_get da_cX4_candidate_2 7 rfl)
theorem dX4_candidate_110 : decode cX4_candidate 110 = .ok (.getfield 136, 3) := fo_180 (fw_get da_cX4_candidate_2 8 rfl)
theorem dX4_candidate_113 : decode cX4_candidate 113 = .ok (.iload_n 3, 1) := fo_29 (fw_get da_cX4_candidate_2 9 rfl)
theorem dX4_candidate_114 : decode cX4_candidate 114 = .ok (.iaload, 1) := fo_46 (fw_get da_cX4_candidate_2 10 rfl)
theorem dX4_candidate_115 : decode cX4_candidate 115 = .ok (.ireturn, 1) := fo_172 (fw_get da_cX4_candidate_2 11 rfl)
theorem dX4_candidate_116 : decode cX4_candidate 116 = .ok (.aload_n 0, 1) := fo_42 (fw_get da_cX4_candidate_2 12 rfl)
theorem dX4_candidate_117 : decode cX4_candidate 117 = .ok (.getfield 12, 3) := fo_180 (fw_get da_cX4_candidate_2 13 rfl)
theorem dX4_candidate_120 : decode cX4_candidate 120 = .ok (.aload_n 0, 1) := fo_42 (fw_get da_cX4_candidate_2 14 rfl)
theorem dX4_candidate_121 : decode cX4_candidate 121 = .ok (.getfield 35, 3) := fo_180 (fw_get da_cX4_candidate_2 15 rfl)
theorem dX4_candidate_124 : decode cX4_candidate 124 = .ok (.getfield 133, 3) := fo_180 (fw_get da_cX4_candidate_2 16 rfl)
theorem dX4_candidate_127 : decode cX4_candidate 127 = .ok (.iload_n 3, 1) := fo_29 (fw_get da_cX4_candidate_2 17 rfl)
theorem dX4_candidate_128 : decode cX4_candidate 128 = .ok (.iaload, 1) := fo_46 (fw_get da_cX4_candidate_2 18 rfl)
theorem dX4_candidate_129 : decode cX4_candidate 129 = .ok (.iload_n 1, 1) := fo_27 (fw_get da_cX4_candidate_2 19 rfl)
def dt_cX4_candidate_3 : List (Nat × Nat × Nat × Nat) := [(130, 28, 0, 0), (131, 182, 2, 113), (134, 172, 0, 0)]
theorem da_cX4_candidate_3 : fw dt_cX4_candidate_3 0 cX4_candidate.data.toList = true := by decide +kernel
theorem dX4_candidate_130 : decode cX4_candidate 130 = .ok (.iload_n 2, 1) := fo_28 (fw_get da_cX4_candidate_3 0 rfl)
theorem dX4_candidate_131 : decode cX4_candidate 131 = .ok (.invokevirtual 113, 3) := fo_182 (fw_get da_cX4_candidate_3 1 rfl)
theorem dX4_candidate_134 : decode cX4_candidate 134 = .ok (.ireturn, 1) := fo_172 (fw_get da_cX4_candidate_3 2 rfl)
set_option maxRecDepth 20000 in
theorem ggX4_heavyAt_X0_hasRange : GoodIn wsX4_heavyAt wsX0_hasRange := goodIn_r _ [12, 13, 153, 154] rfl (by decide +kernel)
set_option maxRecDepth 20000 in
theorem gX4_heavyAt_X0_hasRange : GoodIn wsX4_heavyAt (wsV RX4 79 RX0 yX0_hasRange wsX0_hasRange) := goodIn_app (goodIn_r _ [8, 9, 10, 11] rfl (by decide +kernel)) ggX4_heavyAt_X0_hasRange
set_option maxRecDepth 20000 in
theorem ggX4_heavyAt_X4_isShare : GoodIn wsX4_heavyAt wsX4_isShare := goodIn_r _ [17] rfl (by decide +kernel)
set_option maxRecDepth 20000 in
theorem gX4_heavyAt_X4_isShare : GoodIn wsX4_heavyAt (va_wsS RX4 186 yX4_isShare wsX4_isShare) := goodIn_app (goodIn_r _ [14, 15, 16] rfl (by decide +kernel)) ggX4_heavyAt_X4_isShare
set_option maxRecDepth 20000 in
theorem ggX4_heavyAt_X4_isEnough : GoodIn wsX4_heavyAt wsX4_isEnough := goodIn_r _ [21, 22, 139, 140, 141, 142, 143, 144, 145, 146, 147] rfl (by decide +kernel)
set_option maxRecDepth 20000 in
theorem gX4_heavyAt_X4_isEnough : GoodIn wsX4_heavyAt (wsV RX4 189 RX4 yX4_isEnough wsX4_isEnough) := goodIn_app (goodIn_r _ [18, 19, 20, 16] rfl (by decide +kernel)) ggX4_heavyAt_X4_isEnough
set_option maxRecDepth 20000 in
theorem ggX4_heavyAt_X4_laidTree : GoodIn wsX4_heavyAt wsX4_laidTree := goodIn_r _ [26, 27, 28, 22, 29, 3, 30, 31, 32, 33, 34, 35, 36, 37, 38, 39, 40, 41, 42, 43, 44, 45, 46, 47, 48, 49, 50, 51, 52, 53, 54, 55, 56, 57, 58, 59, 60, 61, 62, 63, 64, 65, 66, 67, 68, 69, 70, 71, 72, 73, 74, 75, 76, 77, 78, 79, 80, 81, 82, 83, 84, 85, 86, 87, 88, 89, 90, 91, 92, 93, 94, 95, 96, 97, 98, 99, 100, 101, 102, 103, 104, 105, 106, 107, 108, 109, 110, 111, 112, 113, 114, 115, 139, 140, 141, 142, 143, 144, 145, 146, 147, 155, 156, 157, 158, 159, 160, 161, 162, 163, 164, 165, 153, 154, 148, 149, 150, 151, 152] rfl (by decide +kernel)
set_option maxRecDepth 20000 in
theorem gX4_heavyAt_X4_laidTree : GoodIn wsX4_heavyAt (wsV RX4 71 RX4 yX4_laidTree wsX4_laidTree) := goodIn_app (goodIn_r _ [23, 24, 25, 16] rfl (by decide +kernel)) ggX4_heavyAt_X4_laidTree
set_option maxRecDepth 20000 in
theorem ggX4_heavyAt_X4_gatherHeavy : GoodIn wsX4_heavyAt wsX4_gatherHeavy := goodIn_r _ [119, 4, 5, 7, 3, 6, 120, 121, 122, 34, 123, 38, 40, 59, 60, 61, 62, 63, 64, 65, 66, 67, 124, 125, 126, 127, 39, 74, 75, 76, 77, 78, 79, 80, 81, 82, 68, 69, 70, 71, 72, 73, 83, 84, 85, 86, 87, 88, 89, 90, 91, 92, 93, 94, 95, 96, 97, 98, 128, 129, 130, 11, 131, 132, 133, 134, 135, 136, 137, 16, 138, 139, 140, 141, 142, 143, 144, 145, 146, 147, 148, 149, 150, 151, 152, 155, 156, 157, 158, 159, 160, 161, 162, 163, 164, 165, 153, 154] rfl (by decide +kernel)
set_option maxRecDepth 20000 in
theorem gX4_heavyAt_X4_gatherHeavy : GoodIn wsX4_heavyAt (wsV RX4 192 RX4 yX4_gatherHeavy wsX4_gatherHeavy) := goodIn_app (goodIn_r _ [116, 117, 118, 16] rfl (by decide +kernel)) ggX4_heavyAt_X4_gatherHeavy
def dt_cX4_heavyAt_0 : List (Nat × Nat × Nat × Nat) := [(0, 42, 0, 0), (1, 180, 2, 12), (4, 27, 0, 0), (5, 28, 0, 0), (6, 182, 2, 79), (9, 153, 2, 28), (12, 29, 0, 0), (13, 21, 1, 4), (15, 184, 2, 186), (18, 153, 2, 19), (21, 21, 1, 5), (23, 155, 2, 14), (26, 21, 1, 6), (28, 155, 2, 9), (31, 21, 1, 6), (33, 4, 0, 0), (34, 164, 2, 11), (37, 187, 2, 107), (40, 89, 0, 0), (41, 183, 2, 109)]
theorem da_cX4_heavyAt_0 : fw dt_cX4_heavyAt_0 0 cX4_heavyAt.data.toList = true := by decide +kernel
theorem dX4_heavyAt_0 : decode cX4_heavyAt 0 = .ok (.aload_n 0, 1) := fo_42 (fw_get da_cX4_heavyAt_0 0 rfl)
theorem dX4_heavyAt_1 : decode cX4_heavyAt 1 = .ok (.getfield 12, 3) := fo_180 (fw_get da_cX4_heavyAt_0 1 rfl)
theorem dX4_heavyAt_4 : decode cX4_heavyAt 4 = .ok (.iload_n 1, 1) := fo_27 (fw_get da_cX4_heavyAt_0 2 rfl)
theorem dX4_heavyAt_5 : decode cX4_heavyAt 5 = .ok (.iload_n 2, 1) := fo_28 (fw_get da_cX4_heavyAt_0 3 rfl)
theorem dX4_heavyAt_6 : decode cX4_heavyAt 6 = .ok (.invokevirtual 79, 3) := fo_182 (fw_get da_cX4_heavyAt_0 4 rfl)
theorem dX4_heavyAt_9 : decode cX4_heavyAt 9 = .ok (.ifCond .eq 28, 3) := fo_153 (fw_get da_cX4_heavyAt_0 5 rfl) (by decide +kernel)
theorem dX4_heavyAt_12 : decode cX4_heavyAt 12 = .ok (.iload_n 3, 1) := fo_29 (fw_get da_cX4_heavyAt_0 6 rfl)
theorem dX4_heavyAt_13 : decode cX4_heavyAt 13 = .ok (.iload 4, 2) := fo_21 (fw_get da_cX4_heavyAt_0 7 rfl)
theorem dX4_heavyAt_15 : decode cX4_heavyAt 15 = .ok (.invokestatic 186, 3) := fo_184 (fw_get da_cX4_heavyAt_0 8 rfl)
theorem dX4_heavyAt_18 : decode cX4_heavyAt 18 = .ok (.ifCond .eq 19, 3) := fo_153 (fw_get da_cX4_heavyAt_0 9 rfl) (by decide +kernel)
theorem dX4_heavyAt_21 : decode cX4_heavyAt 21 = .ok (.iload 5, 2) := fo_21 (fw_get da_cX4_heavyAt_0 10 rfl)
theorem dX4_heavyAt_23 : decode cX4_heavyAt 23 = .ok (.ifCond .lt 14, 3) := fo_155 (fw_get da_cX4_heavyAt_0 11 rfl) (by decide +kernel)
theorem dX4_heavyAt_26 : decode cX4_heavyAt 26 = .ok (.iload 6, 2) := fo_21 (fw_get da_cX4_heavyAt_0 12 rfl)
theorem dX4_heavyAt_28 : decode cX4_heavyAt 28 = .ok (.ifCond .lt 9, 3) := fo_155 (fw_get da_cX4_heavyAt_0 13 rfl) (by decide +kernel)
theorem dX4_heavyAt_31 : decode cX4_heavyAt 31 = .ok (.iload 6, 2) := fo_21 (fw_get da_cX4_heavyAt_0 14 rfl)
theorem dX4_heavyAt_33 : decode cX4_heavyAt 33 = .ok (.iconst 1, 1) := fo_4 (fw_get da_cX4_heavyAt_0 15 rfl)
theorem dX4_heavyAt_34 : decode cX4_heavyAt 34 = .ok (.if_icmp .le 11, 3) := fo_164 (fw_get da_cX4_heavyAt_0 16 rfl) (by decide +kernel)
theorem dX4_heavyAt_37 : decode cX4_heavyAt 37 = .ok (.new 107, 3) := fo_187 (fw_get da_cX4_heavyAt_0 17 rfl)
theorem dX4_heavyAt_40 : decode cX4_heavyAt 40 = .ok (.dup, 1) := fo_89 (fw_get da_cX4_heavyAt_0 18 rfl)
theorem dX4_heavyAt_41 : decode cX4_heavyAt 41 = .ok (.invokespecial 109, 3) := fo_183 (fw_get da_cX4_heavyAt_0 19 rfl)
def dt_cX4_heavyAt_1 : List (Nat × Nat × Nat × Nat) := [(44, 191, 0, 0), (45, 42, 0, 0), (46, 29, 0, 0), (47, 21, 1, 4), (49, 182, 2, 189), (52, 154, 2, 11), (55, 187, 2, 107), (58, 89, 0, 0), (59, 183, 2, 109), (62, 191, 0, 0), (63, 42, 0, 0), (64, 42, 0, 0), (65, 182, 2, 71), (68, 27, 0, 0), (69, 28, 0, 0), (70, 29, 0, 0), (71, 21, 1, 4), (73, 182, 2, 192), (76, 21, 1, 5), (78, 42, 0, 0)]
theorem da_cX4_heavyAt_1 : fw dt_cX4_heavyAt_1 0 cX4_heavyAt.data.toList = true := by decide +kernel
theorem dX4_heavyAt_44 : decode cX4_heavyAt 44 = .ok (.athrow, 1) := fo_191 (fw_get da_cX4_heavyAt_1 0 rfl)
theorem dX4_heavyAt_45 : decode cX4_heavyAt 45 = .ok (.aload_n 0, 1) := fo_42 (fw_get da_cX4_heavyAt_1 1 rfl)
theorem dX4_heavyAt_46 : decode cX4_heavyAt 46 = .ok (.iload_n 3, 1) := fo_29 (fw_get da_cX4_heavyAt_1 2 rfl)
theorem dX4_heavyAt_47 : decode cX4_heavyAt 47 = .ok (.iload 4, 2) := fo_21 (fw_get da_cX4_heavyAt_1 3 rfl)
theorem dX4_heavyAt_49 : decode cX4_heavyAt 49 = .ok (.invokevirtual 189, 3) := fo_182 (fw_get da_cX4_heavyAt_1 4 rfl)
theorem dX4_heavyAt_52 : decode cX4_heavyAt 52 = .ok (.ifCond .ne 11, 3) := fo_154 (fw_get da_cX4_heavyAt_1 5 rfl) (by decide +kernel)
theorem dX4_heavyAt_55 : decode cX4_heavyAt 55 = .ok (.new 107, 3) := fo_187 (fw_get da_cX4_heavyAt_1 6 rfl)
theorem dX4_heavyAt_58 : decode cX4_heavyAt 58 = .ok (.dup, 1) := fo_89 (fw_get da_cX4_heavyAt_1 7 rfl)
theorem dX4_heavyAt_59 : decode cX4_heavyAt 59 = .ok (.invokespecial 109, 3) := fo_183 (fw_get da_cX4_heavyAt_1 8 rfl)
theorem dX4_heavyAt_62 : decode cX4_heavyAt 62 = .ok (.athrow, 1) := fo_191 (fw_get da_cX4_heavyAt_1 9 rfl)
theorem dX4_heavyAt_63 : decode cX4_heavyAt 63 = .ok (.aload_n 0, 1) := fo_42 (fw_get da_cX4_heavyAt_1 10 rfl)
theorem dX4_heavyAt_64 : decode cX4_heavyAt 64 = .ok (.aload_n 0, 1) := fo_42 (fw_get da_cX4_heavyAt_1 11 rfl)
theorem dX4_heavyAt_65 : decode cX4_heavyAt 65 = .ok (.invokevirtual 71, 3) := fo_182 (fw_get da_cX4_heavyAt_1 12 rfl)
theorem dX4_heavyAt_68 : decode cX4_heavyAt 68 = .ok (.iload_n 1, 1) := fo_27 (fw_get da_cX4_heavyAt_1 13 rfl)
theorem dX4_heavyAt_69 : decode cX4_heavyAt 69 = .ok (.iload_n 2, 1) := fo_28 (fw_get da_cX4_heavyAt_1 14 rfl)
theorem dX4_heavyAt_70 : decode cX4_heavyAt 70 = .ok (.iload_n 3, 1) := fo_29 (fw_get da_cX4_heavyAt_1 15 rfl)
theorem dX4_heavyAt_71 : decode cX4_heavyAt 71 = .ok (.iload 4, 2) := fo_21 (fw_get da_cX4_heavyAt_1 16 rfl)
theorem dX4_heavyAt_73 : decode cX4_heavyAt 73 = .ok (.invokevirtual 192, 3) := fo_182 (fw_get da_cX4_heavyAt_1 17 rfl)
theorem dX4_heavyAt_76 : decode cX4_heavyAt 76 = .ok (.iload 5, 2) := fo_21 (fw_get da_cX4_heavyAt_1 18 rfl)
theorem dX4_heavyAt_78 : decode cX4_heavyAt 78 = .ok (.aload_n 0, 1) := fo_42 (fw_get da_cX4_heavyAt_1 19 rfl)
def dt_cX4_heavyAt_2 : List (Nat × Nat × Nat × Nat) := [(79, 180, 2, 35), (82, 180, 2, 174), (85, 161, 2, 11), (88, 187, 2, 107), (91, 89, 0, 0), (92, 183, 2, 109), (95, 191, 0, 0), (96, 21, 1, 6), (98, 154, 2, 16), (101, 42, 0, 0), (102, 180, 2, 35), (105, 180, 2, 133), (108, 21, 1, 5), (110, 46, 0, 0), (111, 167, 2, 13), (114, 42, 0, 0), (115, 180, 2, 35), (118, 180, 2, 136), (121, 21, 1, 5), (123, 46, 0, 0)]
theorem da_cX4_heavyAt_2 : fw dt_cX4_heavyAt_2 0 cX4_heavyAt.data.toList = true := by decide +kernel
theorem dX4_heavyAt_79 : decode cX4_heavyAt 79 = .ok (.getfield 35, 3) := fo_180 (fw_get da_cX4_heavyAt_2 0 rfl)
theorem dX4_heavyAt_82 : decode cX4_heavyAt 82 = .ok (.getfield 174, 3) := fo_180 (fw_get da_cX4_heavyAt_2 1 rfl)
theorem dX4_heavyAt_85 : decode cX4_heavyAt 85 = .ok (.if_icmp .lt 11, 3) := fo_161 (fw_get da_cX4_heavyAt_2 2 rfl) (by decide +kernel)
theorem dX4_heavyAt_88 : decode cX4_heavyAt 88 = .ok (.new 107, 3) := fo_187 (fw_get da_cX4_heavyAt_2 3 rfl)
theorem dX4_heavyAt_91 : decode cX4_heavyAt 91 = .ok (.dup, 1) := fo_89 (fw_get da_cX4_heavyAt_2 4 rfl)
theorem dX4_heavyAt_92 : decode cX4_heavyAt 92 = .ok (.invokespecial 109, 3) := fo_183 (fw_get da_cX4_heavyAt_2 5 rfl)
theorem dX4_heavyAt_95 : decode cX4_heavyAt 95 = .ok (.athrow, 1) := fo_191 (fw_get da_cX4_heavyAt_2 6 rfl)
theorem dX4_heavyAt_96 : decode cX4_heavyAt 96 = .ok (.iload 6, 2) := fo_21 (fw_get da_cX4_heavyAt_2 7 rfl)
theorem dX4_heavyAt_98 : decode cX4_heavyAt 98 = .ok (.ifCond .ne 16, 3) := fo_154 (fw_get da_cX4_heavyAt_2 8 rfl) (by decide +kernel)
theorem dX4_heavyAt_101 : decode cX4_heavyAt 101 = .ok (.aload_n 0, 1) := fo_42 (fw_get da_cX4_heavyAt_2 9 rfl)
theorem dX4_heavyAt_102 : decode cX4_heavyAt 102 = .ok (.getfield 35, 3) := fo_180 (fw_get da_cX4_heavyAt_2 10 rfl)
theorem dX4_heavyAt_105 : decode cX4_heavyAt 105 = .ok (.getfield 133, 3) := fo_180 (fw_get da_cX4_heavyAt_2 11 rfl)
theorem dX4_heavyAt_108 : decode cX4_heavyAt 108 = .ok (.iload 5, 2) := fo_21 (fw_get da_cX4_heavyAt_2 12 rfl)
theorem dX4_heavyAt_110 : decode cX4_heavyAt 110 = .ok (.iaload, 1) := fo_46 (fw_get da_cX4_heavyAt_2 13 rfl)
theorem dX4_heavyAt_111 : decode cX4_heavyAt 111 = .ok (.goto 13, 3) := fo_167 (fw_get da_cX4_heavyAt_2 14 rfl) (by decide +kernel)
theorem dX4_heavyAt_114 : decode cX4_heavyAt 114 = .ok (.aload_n 0, 1) := fo_42 (fw_get da_cX4_heavyAt_2 15 rfl)
theorem dX4_heavyAt_115 : decode cX4_heavyAt 115 = .ok (.getfield 35, 3) := fo_180 (fw_get da_cX4_heavyAt_2 16 rfl)
theorem dX4_heavyAt_118 : decode cX4_heavyAt 118 = .ok (.getfield 136, 3) := fo_180 (fw_get da_cX4_heavyAt_2 17 rfl)
theorem dX4_heavyAt_121 : decode cX4_heavyAt 121 = .ok (.iload 5, 2) := fo_21 (fw_get da_cX4_heavyAt_2 18 rfl)
theorem dX4_heavyAt_123 : decode cX4_heavyAt 123 = .ok (.iaload, 1) := fo_46 (fw_get da_cX4_heavyAt_2 19 rfl)
def dt_cX4_heavyAt_3 : List (Nat × Nat × Nat × Nat) := [(124, 172, 0, 0)]
theorem da_cX4_heavyAt_3 : fw dt_cX4_heavyAt_3 0 cX4_heavyAt.data.toList = true := by decide +kernel
theorem dX4_heavyAt_124 : decode cX4_heavyAt 124 = .ok (.ireturn, 1) := fo_172 (fw_get da_cX4_heavyAt_3 0 rfl)


abbrev EXN : String := "java/util/NoSuchElementException"
abbrev EXC : List String := ["java/lang/RuntimeException", "java/lang/Exception"]
abbrev EXD : List Cond := [.declares (Bundle.init0 "java/lang/RuntimeException"), .declares (Bundle.init0 "java/lang/Exception"), .declares (Bundle.init0 Bundle.tN), .castable EXN EXN]
def ki_ThA (A : Nat → Prop) (U : State) : Prop := (va_Nw (.castable EXN EXN) U ∧ va_Nw (.declares (Bundle.init0 "java/lang/RuntimeException")) U ∧ va_Nw (.declares (Bundle.init0 "java/lang/Exception")) U ∧ va_Nw (.declares (Bundle.init0 Bundle.tN)) U) ∧ vx_Zq Bundle.tN "UNASSIGNED_STACK" Bundle.steD A U U.heap ∧ vx_Zq Bundle.tN "SUPPRESSED_SENTINEL" Bundle.listD A U U.heap
theorem ki_ThA.call {A : Nat → Prop} {U : State} (h : ki_ThA A U) (g : JFrame) (mk : MethodId) (a : Array Value) : ki_ThA A (U.calling g mk a) :=
  ⟨⟨va_Nw.same (u := U) (U := U.calling g mk a) rfl rfl h.1.1, va_Nw.same (u := U) (U := U.calling g mk a) rfl rfl h.1.2.1, va_Nw.same (u := U) (U := U.calling g mk a) rfl rfl h.1.2.2.1, va_Nw.same (u := U) (U := U.calling g mk a) rfl rfl h.1.2.2.2⟩, vx_Zq.moved (u := U) (U := U.calling g mk a) (Vm.Alike.refl U.vm) h.2.1, vx_Zq.moved (u := U) (U := U.calling g mk a) (Vm.Alike.refl U.vm) h.2.2⟩
theorem ki_ThA.from {A A2 : Nat → Prop} {s U : State} {H : Heap} {locs : List Loc} (h : ki_ThA A s) (hS : va_S A s.heap H locs) (hU : U.heap = H) (hW : s.WarmedH U.vm) (hn : ∀ q, A2 q → A q) : ki_ThA A2 U := by
  subst hU
  refine ⟨⟨va_Nw.warmC hW h.1.1, va_Nw.warmD hW h.1.2.1, va_Nw.warmD hW h.1.2.2.1, va_Nw.warmD hW h.1.2.2.2⟩, ?_, ?_⟩
  · exact vx_Zq.moved hW.alike ((h.2.1.kept (fun a h1 h2 => hS.2.1 a h1 h2)).narrow hn)
  · exact vx_Zq.moved hW.alike ((h.2.2.kept (fun a h1 h2 => hS.2.1 a h1 h2)).narrow hn)
theorem ki_ex {A : Nat → Prop} {args : Array Value} {s : State} (h : ki_ThA A s) : ∀ w ∈ EXD, w.before args s = true := vx_c (va_Nw.use rfl h.1.2.1) (vx_c (va_Nw.use rfl h.1.2.2.1) (vx_c (va_Nw.use rfl h.1.2.2.2) (vx_c (va_Nw.use rfl h.1.1) vx_n)))
theorem ki_bad : ∀ w ∈ (vx_at0 RX4 109 EXN EXC).filter (fun w => !goodWord w), w ∈ EXD := by decide +kernel
theorem ki_ot : ∀ w ∈ Cond.classLink RX4 107 EXN :: Cond.initialized EXN :: vx_at0 RX4 109 EXN EXC, vx_ot w = true := by decide +kernel
theorem ki_ints {args : Array Value} {s : State} {D : va_G} {cl : List vw_C} (h : (Cond.arrayClass .int).before args s = true) (hK : va_K D cl [] s) : ∃ cA : ClassId, va_K D cl [(cA, .int)] s := by
  obtain ⟨cA, kA, comp, h1, h2, h3⟩ := Cond.arrayClass_spec h
  refine ⟨cA, hK.1, fun k q hq => ?_⟩
  have hz : k < 1 := (List.getElem?_eq_some_iff.mp hq).1
  rw [show k = 0 by omega] at hq
  cases hq
  exact ⟨fun n z => ⟨fun k h => (by cases h), kA, h2, comp, h3⟩, h1⟩

set_option maxHeartbeats 4000000 in
set_option maxRecDepth 100000 in
theorem c_X4_at (l : Launch) (hl0 : l.stackTraces = false) (dC : Nat → ClassId) (dI : Nat → Nat → Nat) (m_ : Nat) (q_row : Nat) (q_t : Nat) (t_ : Nat) (h0 : Nat) (k0 : Nat) (w_ : Nat) (z_ : Nat) (slots : Int32) (old : Int32) (q_cell : Nat) (cyI : ClassId) (len : Int32) (f : Nat → Int32) (p0 : Int32) (sz : Nat) (a0 : 0 ≤ len.toInt) (a1 : len.toInt ≤ 160) : vx_Met l yX4_at wsX4_at ({ frames := 8, cells := 1, slots := 6, locals := 360 }) (va_Pc [.ref m_, .int p0] (fun U => U.heap.size = sz ∧ va_P (dC, dI) vwCl [kx_4 m_ q_row q_t t_ h0 k0 w_ z_ slots old, kx_0 q_row q_cell len, kx_a q_cell cyI 160 f] U.heap ∧ va_K (dC, dI) vwCl [(cyI, .int)] U ∧ va_D (fun _ => True) [kx_4 m_ q_row q_t t_ h0 k0 w_ z_ slots old, kx_0 q_row q_cell len, kx_a q_cell cyI 160 f] ∧ ki_ThA (va_A [kx_4 m_ q_row q_t t_ h0 k0 w_ z_ slots old, kx_0 q_row q_cell len, kx_a q_cell cyI 160 f] sz) U)) (va_Qi (fun (r : Int32) (_ : Unit) => 0 ≤ p0.toInt ∧ p0.toInt < len.toInt ∧ r = f p0.toNatClampNeg) (fun (_ : Unit) (t : State) => va_P (dC, dI) vwCl [kx_4 m_ q_row q_t t_ h0 k0 w_ z_ slots old, kx_0 q_row q_cell len, kx_a q_cell cyI 160 f] t.heap ∧ va_K (dC, dI) vwCl [(cyI, .int)] t ∧ va_D (va_A [kx_4 m_ q_row q_t t_ h0 k0 w_ z_ slots old, kx_0 q_row q_cell len, kx_a q_cell cyI 160 f] sz) [kx_4 m_ q_row q_t t_ h0 k0 w_ z_ slots old, kx_0 q_row q_cell len, kx_a q_cell cyI 160 f]) (va_A [kx_4 m_ q_row q_t t_ h0 k0 w_ z_ slots old, kx_0 q_row q_cell len, kx_a q_cell cyI 160 f] sz)) (vx_X (fun u : Unit => (p0.toInt < 0 ∨ len.toInt ≤ p0.toInt)) (fun (E : String) (u : Unit) (t : State) => E = EXN ∧ va_P (dC, dI) vwCl [kx_4 m_ q_row q_t t_ h0 k0 w_ z_ slots old, kx_0 q_row q_cell len, kx_a q_cell cyI 160 f] t.heap ∧ va_K (dC, dI) vwCl [(cyI, .int)] t ∧ va_D (va_A [kx_4 m_ q_row q_t t_ h0 k0 w_ z_ slots old, kx_0 q_row q_cell len, kx_a q_cell cyI 160 f] sz) [kx_4 m_ q_row q_t t_ h0 k0 w_ z_ slots old, kx_0 q_row q_cell len, kx_a q_cell cyI 160 f]) (va_A [kx_4 m_ q_row q_t t_ h0 k0 w_ z_ slots old, kx_0 q_row q_cell len, kx_a q_cell cyI 160 f] sz)) 1 6 (va_A [kx_4 m_ q_row q_t t_ h0 k0 w_ z_ slots old, kx_0 q_row q_cell len, kx_a q_cell cyI 160 f] sz) := by
  refine vx_ofW (cc := cX4_at) (maxL := 2) (ret := (some .int)) (by decide) rfl ?_
  intro p e s m args below meth c s₁ B hml htab hv
  obtain ⟨rfl, hsz, hP, hK, hD0, hth⟩ := hv
  have hx := B.exec
  have hb := B.bytes
  have hr := B.returns
  have hts := atoms_spec (ws := wsX4_at) B.pre
  have hown : s.vm.findClass RX4 = some m.cls := findClass_of_methodNamed B.named
  have hlocks := B.notSynchronized
  have hat : ∀ w ∈ vx_at0 RX4 109 EXN EXC, w.before _ s = true := vx_hat (B := EXD) (fun w h => hts w (List.mem_cons_of_mem _ (List.mem_append_right _ h))) ki_bad (ki_ex hth)
  subst hsz
  have hD := hD0.self (sz := s.heap.size)
  generalize hAe : va_A [kx_4 m_ q_row q_t t_ h0 k0 w_ z_ slots old, kx_0 q_row q_cell len, kx_a q_cell cyI 160 f] s.heap.size = A at hD hth ⊢
  have hA : ∀ q : Nat, s.heap.size ≤ q → A q := fun q h => by rw [← hAe]; exact Or.inr h
  have hS : va_S A s.heap s.heap [] := va_S.rf
  have hP : va_P (dC, dI) vwCl [kx_4 m_ q_row q_t t_ h0 k0 w_ z_ slots old, kx_0 q_row q_cell len, kx_a q_cell cyI 160 f] s.heap := hP
  have hl := lv_entry ([.ref m_, .int p0]) (n := 2) (Nat.le_of_ble_eq_true rfl)
  rw [lg_entry_eq]
  generalize (lg_sl ([.ref m_, .int p0]) ++ List.replicate (2 - (lg_sl ([.ref m_, .int p0])).length) Slot.unset).toArray = ls at hl ⊢
  have hl : lv_has ls 2 [(0, .ref m_), (1, .int p0)] := hl
  have hf_12 := hts (.fieldLink RX4 12 "MajorityIndex" "row" "LMajorityIndex$Row;") (List.mem_of_getElem? (i := 3) rfl)
  have hi_4 : ∀ w ∈ u_ws RX4 TX4 9, w ∈ wsX4_at := fun w h => List.mem_cons_of_mem _ (List.mem_append_left _ (List.mem_append_left _ (List.mem_append_right _ h)))
  have hf_110 := hts (.fieldLink RX4 110 "MajorityIndex$Row" "cell" "[I") (List.mem_of_getElem? (i := 4) rfl)
  have hi_0 : ∀ w ∈ u_ws RX0 TX0 2, w ∈ wsX4_at := fun w h => List.mem_cons_of_mem _ (List.mem_append_left _ (List.mem_append_right _ h))
  have hc_107 := hts (.classLink RX4 107 EXN) (by decide +kernel)
  have hz_ex := hts (.initialized EXN) (by decide +kernel)
  refine lv_aload_n hx hb dX4_at_0 rfl (lv_at hl 0 rfl) ?_
  refine va_get (D := (dC, dI)) (ci := 4) (v := .ref q_row) (C := RX4) (T := TX4) (N := 9) hx hb hts hi_4 hown hK hP 0 rfl rfl 0 (by decide) hf_12 (fun _ h9 => h9) rfl dX4_at_1 ?_
  refine lv_iload_n hx hb dX4_at_4 rfl (lv_at hl 1 rfl) ?_
  have hPc := hP.sub (ws' := [kx_0 q_row q_cell len]) [1] rfl
  have hKc := hK.sub (tys' := []) [] rfl
  refine vp_callSi (W.runV (As := [.int p0]) (rest := []) ⟨hx, hb, hml, hown, hts⟩ (c_X0_hasPlace l dC dI q_row q_cell len p0) (cwV 1 hts gX4_at_X0_hasPlace rfl rfl rfl (by decide +kernel) ⟨Nat.le_of_ble_eq_true rfl, Nat.le_of_ble_eq_true rfl⟩) ⟨fun a U g mk q => by obtain ⟨q0, qP, qK⟩ := q; exact ⟨q0, qP, va_K.moved (u := U) (U := U.calling g mk a) (Vm.Alike.refl U.vm) qK⟩, kx_rc0 hKc hPc (q0 := 0) rfl, fun U hU hW => ⟨rfl, by rw [hU]; exact hPc, va_K.moved hW.alike hKc⟩⟩ rfl rfl hl.1 rfl (lv_room (Nat.le_of_ble_eq_true rfl)) dX4_at_5 ⟨Nat.le_of_ble_eq_true rfl, Nat.le_of_ble_eq_true rfl⟩) (fun r_1 w_1 => ?_)
  rcases w_1 with ⟨rfl, w_1⟩ | ⟨rfl, w_1⟩
  · have w_1 : (0 ≤ p0.toInt ∧ p0.toInt < len.toInt) := w_1
    refine lv_if_ne (tgt := 19) hx hb dX4_at_8 (by decide) (fun c_2 => ?_) (fun c_2 => ?_)
    · refine lv_aload_n hx hb dX4_at_19 rfl (lv_at hl 0 rfl) ?_
      refine va_get (D := (dC, dI)) (ci := 4) (v := .ref q_row) (C := RX4) (T := TX4) (N := 9) hx hb hts hi_4 hown hK hP 0 rfl rfl 0 (by decide) hf_12 (fun _ h9 => h9) rfl dX4_at_20 ?_
      refine va_get (D := (dC, dI)) (ci := 0) (v := .ref q_cell) (C := RX0) (T := TX0) (N := 2) hx hb hts hi_0 hown hK hP 1 rfl rfl 0 (by decide) hf_110 (fun _ h9 => h9) rfl dX4_at_23 ?_
      refine lv_iload_n hx hb dX4_at_26 rfl (lv_at hl 1 rfl) ?_
      refine va_iald hx hb hK hP 2 0 rfl rfl (ki_in (om_10 w_1.1) (om_1 a1 w_1.2)) dX4_at_27 ?_
      refine lv_topi (fun y_3 ey_3 => ?_)
      have j_3 : y_3.toInt = (f p0.toNatClampNeg).toInt := congrArg Int32.toInt ey_3
      refine vx_ret ?_
      have hP9 := hP
      have hD9 := hD
      have hK9 := hK
      refine W.widen (k := 1) (n := 6) (Nat.le_of_ble_eq_true rfl) (Nat.le_of_ble_eq_true rfl) ?_
      exact W.iret (v := y_3) hx hb hr (hlocks := hlocks) (fun t ht hW => ⟨⟨y_3, (), rfl, ⟨by omega, by omega, ey_3⟩, by rw [ht]; exact hP9, va_K.moved hW.alike hK9, hD9⟩, hS.F ht⟩) hS.2.2 dX4_at_28
    · exact absurd c_2 (by decide)
  · have w_1 : (p0.toInt < 0 ∨ len.toInt ≤ p0.toInt) := w_1
    refine lv_if_ne (tgt := 19) hx hb dX4_at_8 (by decide) (fun c_4 => ?_) (fun c_4 => ?_)
    · exact absurd c_4 (by decide)
    · have hP9 := hP.sub (ws' := [kx_4 m_ q_row q_t t_ h0 k0 w_ z_ slots old, kx_0 q_row q_cell len, kx_a q_cell cyI 160 f]) [0, 1, 2] rfl
      have hD9 := hD.sub (ws' := [kx_4 m_ q_row q_t t_ h0 k0 w_ z_ slots old, kx_0 q_row q_cell len, kx_a q_cell cyI 160 f]) [0, 1, 2] (by decide) rfl
      have hK9 := hK.sub (tys' := [(cyI, .int)]) [0] rfl
      exact vx_throw0 (names := EXC) hx hb hl0 hown (by decide +kernel) (by decide +kernel) hc_107 hz_ex hat ki_ot hth.2.1 hth.2.2 hS (hl.1.trans hml.symm) dX4_at_11 dX4_at_14 dX4_at_15 dX4_at_18 (fun x h => (htab x h).elim) (Nat.le_of_ble_eq_true rfl) (Nat.le_of_ble_eq_true rfl) (Nat.le_of_ble_eq_true rfl) (Nat.le_of_ble_eq_true rfl) hlocks (fun t ha hz hk => ⟨(), (by omega), ⟨rfl, hP9.kept (fun k x hx => hk x.1 ((hP9 k x hx).lt)), va_K.moved ha hK9, hD9⟩, Nat.le_trans hS.1 hz, fun q h1 h2 => (hk q (Nat.lt_of_lt_of_le h1 hS.1)).trans (hS.2.1 q h1 h2)⟩) hS.2.2 (Nat.le_refl _) (Nat.le_refl _)

set_option maxHeartbeats 4000000 in
set_option maxRecDepth 100000 in
theorem c_X4_vote (l : Launch) (hl0 : l.stackTraces = false) (dC : Nat → ClassId) (dI : Nat → Nat → Nat) (m_ : Nat) (q_row : Nat) (q_t : Nat) (t_ : Nat) (h0 : Nat) (k0 : Nat) (w_ : Nat) (z_ : Nat) (slots : Int32) (old : Int32) (q_joined : Nat) (q_from : Nat) (q_to : Nat) (q_size : Nat) (q_lossOf : Nat) (q_lessBy : Nat) (q_value : Nat) (q_number : Nat) (nodes : Int32) (here : Int32) (q_cell : Nat) (cyI : ClassId) (len : Int32) (f : Nat → Int32) (ff : Nat → Int32) (ft : Nat → Int32) (fs : Nat → Int32) (fo : Nat → Int32) (uv : Nat → Int32) (un : Nat → Int32) (fe : Nat → Int32) (j_v : Nat) (j_n : Nat) (js : Int32) (jl : Int32) (je : Int32) (jv : Nat → Int32) (jn : Nat → Int32) (a_v : Nat) (a_n : Nat) (vs : Int32) (lo : Int32) (le : Int32) (fv : Nat → Int32) (fn : Nat → Int32) (p0 : Int32) (p1 : Int32) (p2 : Int32) (p3 : Int32) (sz : Nat) (a0 : 0 ≤ len.toInt) (a1 : len.toInt ≤ 160) (s0 : sixes fs) (l0 : laidP old ff ft nodes len) : vx_Met l yX4_vote wsX4_vote ({ frames := 8, cells := 1, slots := 6, locals := 360 }) (va_Pc [.ref m_, .int p0, .int p1, .int p2, .int p3] (fun U => U.heap.size = sz ∧ va_P (dC, dI) vwCl [kx_4 m_ q_row q_t t_ h0 k0 w_ z_ slots old, kx_2 q_t q_row q_joined q_from q_to q_size q_lossOf q_lessBy q_value q_number nodes here, kx_0 q_row q_cell len, kx_a q_cell cyI 160 f, kx_a q_from cyI 319 ff, kx_a q_to cyI 319 ft, kx_a q_size cyI 319 fs, kx_a q_lossOf cyI 319 fo, kx_a q_lessBy cyI 319 fe, kx_a q_value cyI 1914 uv, kx_a q_number cyI 1914 un, kx_3 q_joined j_v j_n js jl je, kx_a j_v cyI 12 jv, kx_a j_n cyI 12 jn, kx_3 h0 a_v a_n vs lo le, kx_a a_v cyI 12 fv, kx_a a_n cyI 12 fn] U.heap ∧ va_K (dC, dI) vwCl [(cyI, .int)] U ∧ va_D (fun _ => True) [kx_4 m_ q_row q_t t_ h0 k0 w_ z_ slots old, kx_2 q_t q_row q_joined q_from q_to q_size q_lossOf q_lessBy q_value q_number nodes here, kx_0 q_row q_cell len, kx_a q_cell cyI 160 f, kx_a q_from cyI 319 ff, kx_a q_to cyI 319 ft, kx_a q_size cyI 319 fs, kx_a q_lossOf cyI 319 fo, kx_a q_lessBy cyI 319 fe, kx_a q_value cyI 1914 uv, kx_a q_number cyI 1914 un, kx_3 q_joined j_v j_n js jl je, kx_a j_v cyI 12 jv, kx_a j_n cyI 12 jn, kx_3 h0 a_v a_n vs lo le, kx_a a_v cyI 12 fv, kx_a a_n cyI 12 fn] ∧ ki_ThA (va_A [kx_4 m_ q_row q_t t_ h0 k0 w_ z_ slots old, kx_2 q_t q_row q_joined q_from q_to q_size q_lossOf q_lessBy q_value q_number nodes here, kx_0 q_row q_cell len, kx_a q_cell cyI 160 f, kx_a q_from cyI 319 ff, kx_a q_to cyI 319 ft, kx_a q_size cyI 319 fs, kx_a q_lossOf cyI 319 fo, kx_a q_lessBy cyI 319 fe, kx_a q_value cyI 1914 uv, kx_a q_number cyI 1914 un, kx_3 q_joined j_v j_n js jl je, kx_a j_v cyI 12 jv, kx_a j_n cyI 12 jn, kx_3 h0 a_v a_n vs lo le, kx_a a_v cyI 12 fv, kx_a a_n cyI 12 fn] sz) U)) (va_Qi (fun (r : Int32) (u : Int32 × Int32 × Int32 × (Nat → Int32) × (Nat → Int32) × (Nat → Int32) × (Nat → Int32) × (Nat → Int32) × (Nat → Int32) × (Nat → Int32) × Int32 × Int32 × Int32 × (Nat → Int32) × (Nat → Int32) × Int32 × Int32 × Int32 × (Nat → Int32) × (Nat → Int32)) => (0 : Int) ≤ 1 ∧ laidP u.1 u.2.2.2.1 u.2.2.2.2.1 u.2.1 len ∧ sixes u.2.2.2.2.2.1) (fun (u : Int32 × Int32 × Int32 × (Nat → Int32) × (Nat → Int32) × (Nat → Int32) × (Nat → Int32) × (Nat → Int32) × (Nat → Int32) × (Nat → Int32) × Int32 × Int32 × Int32 × (Nat → Int32) × (Nat → Int32) × Int32 × Int32 × Int32 × (Nat → Int32) × (Nat → Int32)) (t : State) => va_P (dC, dI) vwCl [kx_4 m_ q_row q_t t_ h0 k0 w_ z_ slots u.1, kx_2 q_t q_row q_joined q_from q_to q_size q_lossOf q_lessBy q_value q_number u.2.1 u.2.2.1, kx_0 q_row q_cell len, kx_a q_cell cyI 160 f, kx_a q_from cyI 319 u.2.2.2.1, kx_a q_to cyI 319 u.2.2.2.2.1, kx_a q_size cyI 319 u.2.2.2.2.2.1, kx_a q_lossOf cyI 319 u.2.2.2.2.2.2.1, kx_a q_lessBy cyI 319 u.2.2.2.2.2.2.2.1, kx_a q_value cyI 1914 u.2.2.2.2.2.2.2.2.1, kx_a q_number cyI 1914 u.2.2.2.2.2.2.2.2.2.1, kx_3 q_joined j_v j_n u.2.2.2.2.2.2.2.2.2.2.1 u.2.2.2.2.2.2.2.2.2.2.2.1 u.2.2.2.2.2.2.2.2.2.2.2.2.1, kx_a j_v cyI 12 u.2.2.2.2.2.2.2.2.2.2.2.2.2.1, kx_a j_n cyI 12 u.2.2.2.2.2.2.2.2.2.2.2.2.2.2.1, kx_3 h0 a_v a_n u.2.2.2.2.2.2.2.2.2.2.2.2.2.2.2.1 u.2.2.2.2.2.2.2.2.2.2.2.2.2.2.2.2.1 u.2.2.2.2.2.2.2.2.2.2.2.2.2.2.2.2.2.1, kx_a a_v cyI 12 u.2.2.2.2.2.2.2.2.2.2.2.2.2.2.2.2.2.2.1, kx_a a_n cyI 12 u.2.2.2.2.2.2.2.2.2.2.2.2.2.2.2.2.2.2.2] t.heap ∧ va_K (dC, dI) vwCl [(cyI, .int)] t ∧ va_D (va_A [kx_4 m_ q_row q_t t_ h0 k0 w_ z_ slots old, kx_2 q_t q_row q_joined q_from q_to q_size q_lossOf q_lessBy q_value q_number nodes here, kx_0 q_row q_cell len, kx_a q_cell cyI 160 f, kx_a q_from cyI 319 ff, kx_a q_to cyI 319 ft, kx_a q_size cyI 319 fs, kx_a q_lossOf cyI 319 fo, kx_a q_lessBy cyI 319 fe, kx_a q_value cyI 1914 uv, kx_a q_number cyI 1914 un, kx_3 q_joined j_v j_n js jl je, kx_a j_v cyI 12 jv, kx_a j_n cyI 12 jn, kx_3 h0 a_v a_n vs lo le, kx_a a_v cyI 12 fv, kx_a a_n cyI 12 fn] sz) [kx_4 m_ q_row q_t t_ h0 k0 w_ z_ slots u.1, kx_2 q_t q_row q_joined q_from q_to q_size q_lossOf q_lessBy q_value q_number u.2.1 u.2.2.1, kx_0 q_row q_cell len, kx_a q_cell cyI 160 f, kx_a q_from cyI 319 u.2.2.2.1, kx_a q_to cyI 319 u.2.2.2.2.1, kx_a q_size cyI 319 u.2.2.2.2.2.1, kx_a q_lossOf cyI 319 u.2.2.2.2.2.2.1, kx_a q_lessBy cyI 319 u.2.2.2.2.2.2.2.1, kx_a q_value cyI 1914 u.2.2.2.2.2.2.2.2.1, kx_a q_number cyI 1914 u.2.2.2.2.2.2.2.2.2.1, kx_3 q_joined j_v j_n u.2.2.2.2.2.2.2.2.2.2.1 u.2.2.2.2.2.2.2.2.2.2.2.1 u.2.2.2.2.2.2.2.2.2.2.2.2.1, kx_a j_v cyI 12 u.2.2.2.2.2.2.2.2.2.2.2.2.2.1, kx_a j_n cyI 12 u.2.2.2.2.2.2.2.2.2.2.2.2.2.2.1, kx_3 h0 a_v a_n u.2.2.2.2.2.2.2.2.2.2.2.2.2.2.2.1 u.2.2.2.2.2.2.2.2.2.2.2.2.2.2.2.2.1 u.2.2.2.2.2.2.2.2.2.2.2.2.2.2.2.2.2.1, kx_a a_v cyI 12 u.2.2.2.2.2.2.2.2.2.2.2.2.2.2.2.2.2.2.1, kx_a a_n cyI 12 u.2.2.2.2.2.2.2.2.2.2.2.2.2.2.2.2.2.2.2]) (va_A [kx_4 m_ q_row q_t t_ h0 k0 w_ z_ slots old, kx_2 q_t q_row q_joined q_from q_to q_size q_lossOf q_lessBy q_value q_number nodes here, kx_0 q_row q_cell len, kx_a q_cell cyI 160 f, kx_a q_from cyI 319 ff, kx_a q_to cyI 319 ft, kx_a q_size cyI 319 fs, kx_a q_lossOf cyI 319 fo, kx_a q_lessBy cyI 319 fe, kx_a q_value cyI 1914 uv, kx_a q_number cyI 1914 un, kx_3 q_joined j_v j_n js jl je, kx_a j_v cyI 12 jv, kx_a j_n cyI 12 jn, kx_3 h0 a_v a_n vs lo le, kx_a a_v cyI 12 fv, kx_a a_n cyI 12 fn] sz)) (vx_X (fun u : Int32 × Int32 × Int32 × (Nat → Int32) × (Nat → Int32) × (Nat → Int32) × (Nat → Int32) × (Nat → Int32) × (Nat → Int32) × (Nat → Int32) × Int32 × Int32 × Int32 × (Nat → Int32) × (Nat → Int32) × Int32 × Int32 × Int32 × (Nat → Int32) × (Nat → Int32) => (0 : Int) ≤ 1 ∧ laidP u.1 u.2.2.2.1 u.2.2.2.2.1 u.2.1 len ∧ sixes u.2.2.2.2.2.1) (fun (E : String) (u : Int32 × Int32 × Int32 × (Nat → Int32) × (Nat → Int32) × (Nat → Int32) × (Nat → Int32) × (Nat → Int32) × (Nat → Int32) × (Nat → Int32) × Int32 × Int32 × Int32 × (Nat → Int32) × (Nat → Int32) × Int32 × Int32 × Int32 × (Nat → Int32) × (Nat → Int32)) (t : State) => E = EXN ∧ va_P (dC, dI) vwCl [kx_4 m_ q_row q_t t_ h0 k0 w_ z_ slots u.1, kx_2 q_t q_row q_joined q_from q_to q_size q_lossOf q_lessBy q_value q_number u.2.1 u.2.2.1, kx_0 q_row q_cell len, kx_a q_cell cyI 160 f, kx_a q_from cyI 319 u.2.2.2.1, kx_a q_to cyI 319 u.2.2.2.2.1, kx_a q_size cyI 319 u.2.2.2.2.2.1, kx_a q_lossOf cyI 319 u.2.2.2.2.2.2.1, kx_a q_lessBy cyI 319 u.2.2.2.2.2.2.2.1, kx_a q_value cyI 1914 u.2.2.2.2.2.2.2.2.1, kx_a q_number cyI 1914 u.2.2.2.2.2.2.2.2.2.1, kx_3 q_joined j_v j_n u.2.2.2.2.2.2.2.2.2.2.1 u.2.2.2.2.2.2.2.2.2.2.2.1 u.2.2.2.2.2.2.2.2.2.2.2.2.1, kx_a j_v cyI 12 u.2.2.2.2.2.2.2.2.2.2.2.2.2.1, kx_a j_n cyI 12 u.2.2.2.2.2.2.2.2.2.2.2.2.2.2.1, kx_3 h0 a_v a_n u.2.2.2.2.2.2.2.2.2.2.2.2.2.2.2.1 u.2.2.2.2.2.2.2.2.2.2.2.2.2.2.2.2.1 u.2.2.2.2.2.2.2.2.2.2.2.2.2.2.2.2.2.1, kx_a a_v cyI 12 u.2.2.2.2.2.2.2.2.2.2.2.2.2.2.2.2.2.2.1, kx_a a_n cyI 12 u.2.2.2.2.2.2.2.2.2.2.2.2.2.2.2.2.2.2.2] t.heap ∧ va_K (dC, dI) vwCl [(cyI, .int)] t ∧ va_D (va_A [kx_4 m_ q_row q_t t_ h0 k0 w_ z_ slots old, kx_2 q_t q_row q_joined q_from q_to q_size q_lossOf q_lessBy q_value q_number nodes here, kx_0 q_row q_cell len, kx_a q_cell cyI 160 f, kx_a q_from cyI 319 ff, kx_a q_to cyI 319 ft, kx_a q_size cyI 319 fs, kx_a q_lossOf cyI 319 fo, kx_a q_lessBy cyI 319 fe, kx_a q_value cyI 1914 uv, kx_a q_number cyI 1914 un, kx_3 q_joined j_v j_n js jl je, kx_a j_v cyI 12 jv, kx_a j_n cyI 12 jn, kx_3 h0 a_v a_n vs lo le, kx_a a_v cyI 12 fv, kx_a a_n cyI 12 fn] sz) [kx_4 m_ q_row q_t t_ h0 k0 w_ z_ slots u.1, kx_2 q_t q_row q_joined q_from q_to q_size q_lossOf q_lessBy q_value q_number u.2.1 u.2.2.1, kx_0 q_row q_cell len, kx_a q_cell cyI 160 f, kx_a q_from cyI 319 u.2.2.2.1, kx_a q_to cyI 319 u.2.2.2.2.1, kx_a q_size cyI 319 u.2.2.2.2.2.1, kx_a q_lossOf cyI 319 u.2.2.2.2.2.2.1, kx_a q_lessBy cyI 319 u.2.2.2.2.2.2.2.1, kx_a q_value cyI 1914 u.2.2.2.2.2.2.2.2.1, kx_a q_number cyI 1914 u.2.2.2.2.2.2.2.2.2.1, kx_3 q_joined j_v j_n u.2.2.2.2.2.2.2.2.2.2.1 u.2.2.2.2.2.2.2.2.2.2.2.1 u.2.2.2.2.2.2.2.2.2.2.2.2.1, kx_a j_v cyI 12 u.2.2.2.2.2.2.2.2.2.2.2.2.2.1, kx_a j_n cyI 12 u.2.2.2.2.2.2.2.2.2.2.2.2.2.2.1, kx_3 h0 a_v a_n u.2.2.2.2.2.2.2.2.2.2.2.2.2.2.2.1 u.2.2.2.2.2.2.2.2.2.2.2.2.2.2.2.2.1 u.2.2.2.2.2.2.2.2.2.2.2.2.2.2.2.2.2.1, kx_a a_v cyI 12 u.2.2.2.2.2.2.2.2.2.2.2.2.2.2.2.2.2.2.1, kx_a a_n cyI 12 u.2.2.2.2.2.2.2.2.2.2.2.2.2.2.2.2.2.2.2]) (va_A [kx_4 m_ q_row q_t t_ h0 k0 w_ z_ slots old, kx_2 q_t q_row q_joined q_from q_to q_size q_lossOf q_lessBy q_value q_number nodes here, kx_0 q_row q_cell len, kx_a q_cell cyI 160 f, kx_a q_from cyI 319 ff, kx_a q_to cyI 319 ft, kx_a q_size cyI 319 fs, kx_a q_lossOf cyI 319 fo, kx_a q_lessBy cyI 319 fe, kx_a q_value cyI 1914 uv, kx_a q_number cyI 1914 un, kx_3 q_joined j_v j_n js jl je, kx_a j_v cyI 12 jv, kx_a j_n cyI 12 jn, kx_3 h0 a_v a_n vs lo le, kx_a a_v cyI 12 fv, kx_a a_n cyI 12 fn] sz)) 1 6 (va_A [kx_4 m_ q_row q_t t_ h0 k0 w_ z_ slots old, kx_2 q_t q_row q_joined q_from q_to q_size q_lossOf q_lessBy q_value q_number nodes here, kx_0 q_row q_cell len, kx_a q_cell cyI 160 f, kx_a q_from cyI 319 ff, kx_a q_to cyI 319 ft, kx_a q_size cyI 319 fs, kx_a q_lossOf cyI 319 fo, kx_a q_lessBy cyI 319 fe, kx_a q_value cyI 1914 uv, kx_a q_number cyI 1914 un, kx_3 q_joined j_v j_n js jl je, kx_a j_v cyI 12 jv, kx_a j_n cyI 12 jn, kx_3 h0 a_v a_n vs lo le, kx_a a_v cyI 12 fv, kx_a a_n cyI 12 fn] sz) := by
  refine vx_ofW (cc := cX4_vote) (maxL := 7) (ret := (some .int)) (by decide) rfl ?_
  intro p e s m args below meth c s₁ B hml htab hv
  obtain ⟨rfl, hsz, hP, hK, hD0, hth⟩ := hv
  have hx := B.exec
  have hb := B.bytes
  have hr := B.returns
  have hts := atoms_spec (ws := wsX4_vote) B.pre
  have hown : s.vm.findClass RX4 = some m.cls := findClass_of_methodNamed B.named
  have hlocks := B.notSynchronized
  have hat : ∀ w ∈ vx_at0 RX4 109 EXN EXC, w.before _ s = true := vx_hat (B := EXD) (fun w h => hts w (List.mem_cons_of_mem _ (List.mem_append_right _ h))) ki_bad (ki_ex hth)
  subst hsz
  have hD := hD0.self (sz := s.heap.size)
  generalize hAe : va_A [kx_4 m_ q_row q_t t_ h0 k0 w_ z_ slots old, kx_2 q_t q_row q_joined q_from q_to q_size q_lossOf q_lessBy q_value q_number nodes here, kx_0 q_row q_cell len, kx_a q_cell cyI 160 f, kx_a q_from cyI 319 ff, kx_a q_to cyI 319 ft, kx_a q_size cyI 319 fs, kx_a q_lossOf cyI 319 fo, kx_a q_lessBy cyI 319 fe, kx_a q_value cyI 1914 uv, kx_a q_number cyI 1914 un, kx_3 q_joined j_v j_n js jl je, kx_a j_v cyI 12 jv, kx_a j_n cyI 12 jn, kx_3 h0 a_v a_n vs lo le, kx_a a_v cyI 12 fv, kx_a a_n cyI 12 fn] s.heap.size = A at hD hth ⊢
  have hA : ∀ q : Nat, s.heap.size ≤ q → A q := fun q h => by rw [← hAe]; exact Or.inr h
  have hS : va_S A s.heap s.heap [] := va_S.rf
  have hP : va_P (dC, dI) vwCl [kx_4 m_ q_row q_t t_ h0 k0 w_ z_ slots old, kx_2 q_t q_row q_joined q_from q_to q_size q_lossOf q_lessBy q_value q_number nodes here, kx_0 q_row q_cell len, kx_a q_cell cyI 160 f, kx_a q_from cyI 319 ff, kx_a q_to cyI 319 ft, kx_a q_size cyI 319 fs, kx_a q_lossOf cyI 319 fo, kx_a q_lessBy cyI 319 fe, kx_a q_value cyI 1914 uv, kx_a q_number cyI 1914 un, kx_3 q_joined j_v j_n js jl je, kx_a j_v cyI 12 jv, kx_a j_n cyI 12 jn, kx_3 h0 a_v a_n vs lo le, kx_a a_v cyI 12 fv, kx_a a_n cyI 12 fn] s.heap := hP
  have hl := lv_entry ([.ref m_, .int p0, .int p1, .int p2, .int p3]) (n := 7) (Nat.le_of_ble_eq_true rfl)
  rw [lg_entry_eq]
  generalize (lg_sl ([.ref m_, .int p0, .int p1, .int p2, .int p3]) ++ List.replicate (7 - (lg_sl ([.ref m_, .int p0, .int p1, .int p2, .int p3])).length) Slot.unset).toArray = ls at hl ⊢
  have hl : lv_has ls 7 [(0, .ref m_), (1, .int p0), (2, .int p1), (3, .int p2), (4, .int p3)] := hl
  have hf_12 := hts (.fieldLink RX4 12 "MajorityIndex" "row" "LMajorityIndex$Row;") (List.mem_of_getElem? (i := 3) rfl)
  have hi_4 : ∀ w ∈ u_ws RX4 TX4 9, w ∈ wsX4_vote := fun w h => List.mem_cons_of_mem _ (List.mem_append_left _ (List.mem_append_left _ (List.mem_append_left _ (List.mem_append_left _ (List.mem_append_right _ h)))))
  have hc_107 := hts (.classLink RX4 107 EXN) (by decide +kernel)
  have hz_ex := hts (.initialized EXN) (by decide +kernel)
  have hf_126 := hts (.fieldLink RX4 126 "MajorityIndex$Tree" "size" "[I") (List.mem_of_getElem? (i := 4) rfl)
  have hi_2 : ∀ w ∈ u_ws RX2 TX2 11, w ∈ wsX4_vote := fun w h => List.mem_cons_of_mem _ (List.mem_append_left _ (List.mem_append_left _ (List.mem_append_left _ (List.mem_append_right _ h))))
  have hf_35 := hts (.fieldLink RX4 35 "MajorityIndex" "votes" "LMajorityIndex$Votes;") (List.mem_of_getElem? (i := 5) rfl)
  have hf_136 := hts (.fieldLink RX4 136 "MajorityIndex$Votes" "number" "[I") (List.mem_of_getElem? (i := 7) rfl)
  have hi_3 : ∀ w ∈ u_ws RX3 TX3 5, w ∈ wsX4_vote := fun w h => List.mem_cons_of_mem _ (List.mem_append_left _ (List.mem_append_left _ (List.mem_append_right _ h)))
  have hf_133 := hts (.fieldLink RX4 133 "MajorityIndex$Votes" "value" "[I") (List.mem_of_getElem? (i := 6) rfl)
  refine lv_aload_n hx hb dX4_vote_0 rfl (lv_at hl 0 rfl) ?_
  refine va_get (D := (dC, dI)) (ci := 4) (v := .ref q_row) (C := RX4) (T := TX4) (N := 9) hx hb hts hi_4 hown hK hP 0 rfl rfl 0 (by decide) hf_12 (fun _ h9 => h9) rfl dX4_vote_1 ?_
  refine lv_iload_n hx hb dX4_vote_4 rfl (lv_at hl 1 rfl) ?_
  refine lv_iload_n hx hb dX4_vote_5 rfl (lv_at hl 2 rfl) ?_
  have hPc := hP.sub (ws' := [kx_0 q_row q_cell len]) [2] rfl
  have hKc := hK.sub (tys' := []) [] rfl
  refine vp_callSi (W.runV (As := [.int p0, .int p1]) (rest := []) ⟨hx, hb, hml, hown, hts⟩ (c_X0_hasRange l dC dI q_row q_cell len p0 p1) (cwV 2 hts gX4_vote_X0_hasRange rfl rfl rfl (by decide +kernel) ⟨Nat.le_of_ble_eq_true rfl, Nat.le_of_ble_eq_true rfl⟩) ⟨fun a U g mk q => by obtain ⟨q0, qP, qK⟩ := q; exact ⟨q0, qP, va_K.moved (u := U) (U := U.calling g mk a) (Vm.Alike.refl U.vm) qK⟩, kx_rc0 hKc hPc (q0 := 0) rfl, fun U hU hW => ⟨rfl, by rw [hU]; exact hPc, va_K.moved hW.alike hKc⟩⟩ rfl rfl hl.1 rfl (lv_room (Nat.le_of_ble_eq_true rfl)) dX4_vote_6 ⟨Nat.le_of_ble_eq_true rfl, Nat.le_of_ble_eq_true rfl⟩) (fun r_1 w_1 => ?_)
  rcases w_1 with ⟨rfl, w_1⟩ | ⟨rfl, w_1⟩
  · have w_1 : (0 ≤ p0.toInt ∧ p0.toInt < p1.toInt ∧ p1.toInt ≤ len.toInt) := w_1
    refine lv_if_eq (tgt := 23) hx hb dX4_vote_9 (by decide) (fun c_2 => ?_) (fun c_2 => ?_)
    · exact absurd c_2 (by decide)
    · refine lv_iload hx hb dX4_vote_12 (lv_at hl 4 rfl) ?_
      refine lv_if_lt (tgt := 23) hx hb dX4_vote_14 (by decide) (fun c_3 => ?_) (fun c_3 => ?_)
      · have i_3 : p3.toInt < 0 := kc_lt c_3
        have hP9 := hP.sub (ws' := [kx_4 m_ q_row q_t t_ h0 k0 w_ z_ slots old, kx_2 q_t q_row q_joined q_from q_to q_size q_lossOf q_lessBy q_value q_number nodes here, kx_0 q_row q_cell len, kx_a q_cell cyI 160 f, kx_a q_from cyI 319 ff, kx_a q_to cyI 319 ft, kx_a q_size cyI 319 fs, kx_a q_lossOf cyI 319 fo, kx_a q_lessBy cyI 319 fe, kx_a q_value cyI 1914 uv, kx_a q_number cyI 1914 un, kx_3 q_joined j_v j_n js jl je, kx_a j_v cyI 12 jv, kx_a j_n cyI 12 jn, kx_3 h0 a_v a_n vs lo le, kx_a a_v cyI 12 fv, kx_a a_n cyI 12 fn]) [0, 1, 2, 3, 4, 5, 6, 7, 8, 9, 10, 11, 12, 13, 14, 15, 16] rfl
        have hD9 := hD.sub (ws' := [kx_4 m_ q_row q_t t_ h0 k0 w_ z_ slots old, kx_2 q_t q_row q_joined q_from q_to q_size q_lossOf q_lessBy q_value q_number nodes here, kx_0 q_row q_cell len, kx_a q_cell cyI 160 f, kx_a q_from cyI 319 ff, kx_a q_to cyI 319 ft, kx_a q_size cyI 319 fs, kx_a q_lossOf cyI 319 fo, kx_a q_lessBy cyI 319 fe, kx_a q_value cyI 1914 uv, kx_a q_number cyI 1914 un, kx_3 q_joined j_v j_n js jl je, kx_a j_v cyI 12 jv, kx_a j_n cyI 12 jn, kx_3 h0 a_v a_n vs lo le, kx_a a_v cyI 12 fv, kx_a a_n cyI 12 fn]) [0, 1, 2, 3, 4, 5, 6, 7, 8, 9, 10, 11, 12, 13, 14, 15, 16] (by decide) rfl
        have hK9 := hK.sub (tys' := [(cyI, .int)]) [0] rfl
        exact vx_throw0 (names := EXC) hx hb hl0 hown (by decide +kernel) (by decide +kernel) hc_107 hz_ex hat ki_ot hth.2.1 hth.2.2 hS (hl.1.trans hml.symm) dX4_vote_23 dX4_vote_26 dX4_vote_27 dX4_vote_30 (fun x h => (htab x h).elim) (Nat.le_of_ble_eq_true rfl) (Nat.le_of_ble_eq_true rfl) (Nat.le_of_ble_eq_true rfl) (Nat.le_of_ble_eq_true rfl) hlocks (fun t ha hz hk => ⟨(old, nodes, here, ff, ft, fs, fo, fe, uv, un, js, jl, je, jv, jn, vs, lo, le, fv, fn), ⟨(by decide), l0, s0⟩, ⟨rfl, hP9.kept (fun k x hx => hk x.1 ((hP9 k x hx).lt)), va_K.moved ha hK9, hD9⟩, Nat.le_trans hS.1 hz, fun q h1 h2 => (hk q (Nat.lt_of_lt_of_le h1 hS.1)).trans (hS.2.1 q h1 h2)⟩) hS.2.2 (Nat.le_refl _) (Nat.le_refl _)
      · have i_3 : 0 ≤ p3.toInt := kc_nlt c_3
        refine lv_iload hx hb dX4_vote_17 (lv_at hl 4 rfl) ?_
        refine lv_iconst (v := 1) hx hb dX4_vote_19 (by decide) ?_
        refine lv_icmp_le (tgt := 31) hx hb dX4_vote_20 (by decide) (fun c_4 => ?_) (fun c_4 => ?_)
        · have i_4 : p3.toInt ≤ 1 := kc_le c_4
          refine lv_aload_n hx hb dX4_vote_31 rfl (lv_at hl 0 rfl) ?_
          obtain ⟨hPc, hDc, hFc, hCc⟩ := kx_preM (wc := [kx_4 m_ q_row q_t t_ h0 k0 w_ z_ slots old, kx_2 q_t q_row q_joined q_from q_to q_size q_lossOf q_lessBy q_value q_number nodes here, kx_0 q_row q_cell len, kx_a q_cell cyI 160 f, kx_a q_from cyI 319 ff, kx_a q_to cyI 319 ft, kx_a q_size cyI 319 fs, kx_a q_lossOf cyI 319 fo, kx_a q_lessBy cyI 319 fe, kx_a q_value cyI 1914 uv, kx_a q_number cyI 1914 un, kx_3 q_joined j_v j_n js jl je, kx_a j_v cyI 12 jv, kx_a j_n cyI 12 jn]) hP hD hS hA [true, true, true, true, true, true, true, true, true, true, true, true, true, true, false, false, false] rfl
          have hKc := hK
          refine va_callr (va_runV (As := []) (rest := []) ⟨hx, hb, hml, hown, hts⟩ (kx_un (c_X4_laidTree l dC dI m_ q_row q_t t_ h0 k0 w_ z_ slots old q_joined q_from q_to q_size q_lossOf q_lessBy q_value q_number nodes here q_cell cyI len f ff ft fs fo uv un fe j_v j_n js jl je jv jn s.heap.size a0 a1 s0 l0)) (cwV 0 hts gX4_vote_X4_laidTree rfl rfl rfl (by decide +kernel) ⟨Nat.le_of_ble_eq_true rfl, Nat.le_of_ble_eq_true rfl⟩) ⟨fun a U g mk q => by obtain ⟨q0, q1, qP, qK, qD⟩ := q; exact ⟨q0, q1, qP, va_K.moved (u := U) (U := U.calling g mk a) (Vm.Alike.refl U.vm) qK, qD⟩, kx_rc4 hKc hPc (q0 := 0) rfl, fun U hU hW => ⟨rfl, by rw [hU], by rw [hU]; exact hPc, va_K.moved hW.alike hKc, hDc.weaken (fun _ _ _ _ => trivial)⟩⟩ rfl rfl hl.1 rfl (lv_room (Nat.le_of_ble_eq_true rfl)) dX4_vote_32 ⟨Nat.le_of_ble_eq_true rfl, Nat.le_of_ble_eq_true rfl⟩) hS (fun q _ h => hFc q h) hFc (fun u ra t H1 locs ht hvm w_5 hB hz1 hk1 hS => ?_)
          obtain ⟨o_6, o_7, o_8, o_9, o_10, o_11, o_12, o_13, o_14, o_15, o_16, o_17, o_18, o_19, o_20⟩ := u
          dsimp only at w_5 hB
          obtain ⟨er, hP1, hK1, hD1⟩ := hB
          rw [ht] at hP1
          have hK1 := va_K.moved hvm.symm hK1
          obtain ⟨hP, hD⟩ := kx_joinM (w2 := [kx_4 m_ q_row q_t t_ h0 k0 w_ z_ slots o_6, kx_2 q_t q_row q_joined q_from q_to q_size q_lossOf q_lessBy q_value q_number o_7 o_8, kx_0 q_row q_cell len, kx_a q_cell cyI 160 f, kx_a q_from cyI 319 o_9, kx_a q_to cyI 319 o_10, kx_a q_size cyI 319 o_11, kx_a q_lossOf cyI 319 o_12, kx_a q_lessBy cyI 319 o_13, kx_a q_value cyI 1914 o_14, kx_a q_number cyI 1914 o_15, kx_3 q_joined j_v j_n o_16 o_17 o_18, kx_a j_v cyI 12 o_19, kx_a j_n cyI 12 o_20, kx_3 h0 a_v a_n vs lo le, kx_a a_v cyI 12 fv, kx_a a_n cyI 12 fn]) hP hD hP1 hD1 hk1 hFc [true, true, true, true, true, true, true, true, true, true, true, true, true, true, false, false, false] hCc rfl
          clear hP1 hD1 hK1 hk1 hz1 hFc hDc hPc hKc hCc
          generalize H1 = H at hP hS ⊢
          have w_5 : o_6.toInt = 0 ∧ 0 ≤ o_7.toInt ∧ o_7.toInt ≤ 319 ∧ sixes o_11 ∧ treeOk o_9 o_10 o_7.toInt len.toInt := w_5
          rw [er]
          refine lv_astore (lv' := [(5, .ref q_t), (0, .ref m_), (1, .int p0), (2, .int p1), (3, .int p2), (4, .int p3)]) hx hb dX4_vote_35 hl (by decide) rfl (fun ls hl => ?_)
          refine lv_aload hx hb dX4_vote_37 (lv_at hl 0 rfl) ?_
          refine lv_iload_n hx hb dX4_vote_39 rfl (lv_at hl 2 rfl) ?_
          refine lv_iload_n hx hb dX4_vote_40 rfl (lv_at hl 3 rfl) ?_
          have hPc := hP.sub (ws' := [kx_2 q_t q_row q_joined q_from q_to q_size q_lossOf q_lessBy q_value q_number o_7 o_8, kx_a q_from cyI 319 o_9, kx_a q_to cyI 319 o_10]) [1, 4, 5] rfl
          have hKc := hK
          refine vp_callSi (W.runV (As := [.int p0, .int p1]) (rest := []) ⟨hx, hb, hml, hown, hts⟩ (c_X2_find l dC dI q_t q_row q_joined q_from q_to q_size q_lossOf q_lessBy q_value q_number o_7 o_8 cyI o_9 o_10 p0 p1 w_5.2.1 w_5.2.2.1) (cwV 2 hts gX4_vote_X2_find rfl rfl rfl (by decide +kernel) ⟨Nat.le_of_ble_eq_true rfl, Nat.le_of_ble_eq_true rfl⟩) ⟨fun a U g mk q => by obtain ⟨q0, qP, qK⟩ := q; exact ⟨q0, qP, va_K.moved (u := U) (U := U.calling g mk a) (Vm.Alike.refl U.vm) qK⟩, kx_rc2 hKc hPc (q0 := 0) rfl, fun U hU hW => ⟨rfl, by rw [hU]; exact hPc, va_K.moved hW.alike hKc⟩⟩ rfl rfl hl.1 rfl (lv_room (Nat.le_of_ble_eq_true rfl)) dX4_vote_41 ⟨Nat.le_of_ble_eq_true rfl, Nat.le_of_ble_eq_true rfl⟩) (fun r_21 w_21 => ?_)
          have w_21 : (r_21.toInt = -1 ∨ (0 ≤ r_21.toInt ∧ r_21.toInt < o_7.toInt)) := w_21
          refine lv_istore (lv' := [(6, .int r_21), (5, .ref q_t), (0, .ref m_), (1, .int p0), (2, .int p1), (3, .int p2), (4, .int p3)]) hx hb dX4_vote_44 hl (by decide) rfl (fun ls hl => ?_)
          refine lv_iload hx hb dX4_vote_46 (lv_at hl 0 rfl) ?_
          refine lv_iconst (v := (-1)) hx hb dX4_vote_48 (by decide) ?_
          refine lv_icmp_eq (tgt := 68) hx hb dX4_vote_49 (by decide) (fun c_22 => ?_) (fun c_22 => ?_)
          · have i_22 : r_21.toInt = (-1) := kc_eq c_22
            have hP9 := hP.sub (ws' := [kx_4 m_ q_row q_t t_ h0 k0 w_ z_ slots o_6, kx_2 q_t q_row q_joined q_from q_to q_size q_lossOf q_lessBy q_value q_number o_7 o_8, kx_0 q_row q_cell len, kx_a q_cell cyI 160 f, kx_a q_from cyI 319 o_9, kx_a q_to cyI 319 o_10, kx_a q_size cyI 319 o_11, kx_a q_lossOf cyI 319 o_12, kx_a q_lessBy cyI 319 o_13, kx_a q_value cyI 1914 o_14, kx_a q_number cyI 1914 o_15, kx_3 q_joined j_v j_n o_16 o_17 o_18, kx_a j_v cyI 12 o_19, kx_a j_n cyI 12 o_20, kx_3 h0 a_v a_n vs lo le, kx_a a_v cyI 12 fv, kx_a a_n cyI 12 fn]) [0, 1, 2, 3, 4, 5, 6, 7, 8, 9, 10, 11, 12, 13, 14, 15, 16] rfl
            have hD9 := hD.sub (ws' := [kx_4 m_ q_row q_t t_ h0 k0 w_ z_ slots o_6, kx_2 q_t q_row q_joined q_from q_to q_size q_lossOf q_lessBy q_value q_number o_7 o_8, kx_0 q_row q_cell len, kx_a q_cell cyI 160 f, kx_a q_from cyI 319 o_9, kx_a q_to cyI 319 o_10, kx_a q_size cyI 319 o_11, kx_a q_lossOf cyI 319 o_12, kx_a q_lessBy cyI 319 o_13, kx_a q_value cyI 1914 o_14, kx_a q_number cyI 1914 o_15, kx_3 q_joined j_v j_n o_16 o_17 o_18, kx_a j_v cyI 12 o_19, kx_a j_n cyI 12 o_20, kx_3 h0 a_v a_n vs lo le, kx_a a_v cyI 12 fv, kx_a a_n cyI 12 fn]) [0, 1, 2, 3, 4, 5, 6, 7, 8, 9, 10, 11, 12, 13, 14, 15, 16] (by decide) rfl
            have hK9 := hK.sub (tys' := [(cyI, .int)]) [0] rfl
            exact vx_throw0 (names := EXC) hx hb hl0 hown (by decide +kernel) (by decide +kernel) hc_107 hz_ex hat ki_ot hth.2.1 hth.2.2 hS (hl.1.trans hml.symm) dX4_vote_68 dX4_vote_71 dX4_vote_72 dX4_vote_75 (fun x h => (htab x h).elim) (Nat.le_of_ble_eq_true rfl) (Nat.le_of_ble_eq_true rfl) (Nat.le_of_ble_eq_true rfl) (Nat.le_of_ble_eq_true rfl) hlocks (fun t ha hz hk => ⟨(o_6, o_7, o_8, o_9, o_10, o_11, o_12, o_13, o_14, o_15, o_16, o_17, o_18, o_19, o_20, vs, lo, le, fv, fn), ⟨(by decide), (fun _ => ⟨(by (try dsimp only); omega), (by (try dsimp only); omega), w_5.2.2.2.2⟩), w_5.2.2.2.1⟩, ⟨rfl, hP9.kept (fun k x hx => hk x.1 ((hP9 k x hx).lt)), va_K.moved ha hK9, hD9⟩, Nat.le_trans hS.1 hz, fun q h1 h2 => (hk q (Nat.lt_of_lt_of_le h1 hS.1)).trans (hS.2.1 q h1 h2)⟩) hS.2.2 (Nat.le_refl _) (Nat.le_refl _)
          · have i_22 : ¬ r_21.toInt = (-1) := kc_ne c_22
            refine lv_iload_n hx hb dX4_vote_52 rfl (lv_at hl 5 rfl) ?_
            refine lv_if_lt (tgt := 68) hx hb dX4_vote_53 (by decide) (fun c_23 => ?_) (fun c_23 => ?_)
            · have i_23 : p2.toInt < 0 := kc_lt c_23
              have hP9 := hP.sub (ws' := [kx_4 m_ q_row q_t t_ h0 k0 w_ z_ slots o_6, kx_2 q_t q_row q_joined q_from q_to q_size q_lossOf q_lessBy q_value q_number o_7 o_8, kx_0 q_row q_cell len, kx_a q_cell cyI 160 f, kx_a q_from cyI 319 o_9, kx_a q_to cyI 319 o_10, kx_a q_size cyI 319 o_11, kx_a q_lossOf cyI 319 o_12, kx_a q_lessBy cyI 319 o_13, kx_a q_value cyI 1914 o_14, kx_a q_number cyI 1914 o_15, kx_3 q_joined j_v j_n o_16 o_17 o_18, kx_a j_v cyI 12 o_19, kx_a j_n cyI 12 o_20, kx_3 h0 a_v a_n vs lo le, kx_a a_v cyI 12 fv, kx_a a_n cyI 12 fn]) [0, 1, 2, 3, 4, 5, 6, 7, 8, 9, 10, 11, 12, 13, 14, 15, 16] rfl
              have hD9 := hD.sub (ws' := [kx_4 m_ q_row q_t t_ h0 k0 w_ z_ slots o_6, kx_2 q_t q_row q_joined q_from q_to q_size q_lossOf q_lessBy q_value q_number o_7 o_8, kx_0 q_row q_cell len, kx_a q_cell cyI 160 f, kx_a q_from cyI 319 o_9, kx_a q_to cyI 319 o_10, kx_a q_size cyI 319 o_11, kx_a q_lossOf cyI 319 o_12, kx_a q_lessBy cyI 319 o_13, kx_a q_value cyI 1914 o_14, kx_a q_number cyI 1914 o_15, kx_3 q_joined j_v j_n o_16 o_17 o_18, kx_a j_v cyI 12 o_19, kx_a j_n cyI 12 o_20, kx_3 h0 a_v a_n vs lo le, kx_a a_v cyI 12 fv, kx_a a_n cyI 12 fn]) [0, 1, 2, 3, 4, 5, 6, 7, 8, 9, 10, 11, 12, 13, 14, 15, 16] (by decide) rfl
              have hK9 := hK.sub (tys' := [(cyI, .int)]) [0] rfl
              exact vx_throw0 (names := EXC) hx hb hl0 hown (by decide +kernel) (by decide +kernel) hc_107 hz_ex hat ki_ot hth.2.1 hth.2.2 hS (hl.1.trans hml.symm) dX4_vote_68 dX4_vote_71 dX4_vote_72 dX4_vote_75 (fun x h => (htab x h).elim) (Nat.le_of_ble_eq_true rfl) (Nat.le_of_ble_eq_true rfl) (Nat.le_of_ble_eq_true rfl) (Nat.le_of_ble_eq_true rfl) hlocks (fun t ha hz hk => ⟨(o_6, o_7, o_8, o_9, o_10, o_11, o_12, o_13, o_14, o_15, o_16, o_17, o_18, o_19, o_20, vs, lo, le, fv, fn), ⟨(by decide), (fun _ => ⟨(by (try dsimp only); omega), (by (try dsimp only); omega), w_5.2.2.2.2⟩), w_5.2.2.2.1⟩, ⟨rfl, hP9.kept (fun k x hx => hk x.1 ((hP9 k x hx).lt)), va_K.moved ha hK9, hD9⟩, Nat.le_trans hS.1 hz, fun q h1 h2 => (hk q (Nat.lt_of_lt_of_le h1 hS.1)).trans (hS.2.1 q h1 h2)⟩) hS.2.2 (Nat.le_refl _) (Nat.le_refl _)
            · have i_23 : 0 ≤ p2.toInt := kc_nlt c_23
              refine lv_iload_n hx hb dX4_vote_56 rfl (lv_at hl 5 rfl) ?_
              refine lv_aload hx hb dX4_vote_57 (lv_at hl 1 rfl) ?_
              refine va_get (D := (dC, dI)) (ci := 2) (v := .ref q_size) (C := RX2) (T := TX2) (N := 11) hx hb hts hi_2 hown hK hP 1 rfl rfl 4 (by decide) hf_126 (fun _ h9 => h9) rfl dX4_vote_59 ?_
              refine lv_iload hx hb dX4_vote_62 (lv_at hl 0 rfl) ?_
              refine va_iald hx hb hK hP 6 0 rfl rfl (ki_in (by omega) (by omega)) dX4_vote_64 ?_
              refine lv_topi (fun y_24 ey_24 => ?_)
              have j_24 : y_24.toInt = (o_11 r_21.toNatClampNeg).toInt := congrArg Int32.toInt ey_24
              have n_25 : (r_21.toNatClampNeg : Int) = r_21.toInt := ki_nat _ rfl (by omega)
              have i_26 := w_5.2.2.2.1 r_21.toNatClampNeg (by omega)
              refine lv_icmp_lt (tgt := 76) hx hb dX4_vote_65 (by decide) (fun c_27 => ?_) (fun c_27 => ?_)
              · have i_27 : p2.toInt < y_24.toInt := kc_lt c_27
                refine lv_aload hx hb dX4_vote_76 (lv_at hl 1 rfl) ?_
                refine lv_aload_n hx hb dX4_vote_78 rfl (lv_at hl 2 rfl) ?_
                refine va_get (D := (dC, dI)) (ci := 4) (v := .ref h0) (C := RX4) (T := TX4) (N := 9) hx hb hts hi_4 hown hK hP 0 rfl rfl 3 (by decide) hf_35 (fun _ h9 => h9) rfl dX4_vote_79 ?_
                refine lv_iload hx hb dX4_vote_82 (lv_at hl 0 rfl) ?_
                obtain ⟨hPc, hDc, hFc, hCc⟩ := kx_preM (wc := [kx_2 q_t q_row q_joined q_from q_to q_size q_lossOf q_lessBy q_value q_number o_7 o_8, kx_a q_size cyI 319 o_11, kx_a q_lossOf cyI 319 o_12, kx_a q_value cyI 1914 o_14, kx_a q_number cyI 1914 o_15, kx_3 h0 a_v a_n vs lo le, kx_a a_v cyI 12 fv, kx_a a_n cyI 12 fn]) hP hD hS hA [false, true, false, false, false, false, true, true, false, true, true, false, false, false, true, true, true] rfl
                have hKc := hK
                refine va_callv (va_runV (As := [.ref h0, .int r_21]) (rest := []) ⟨hx, hb, hml, hown, hts⟩ (kx_un (c_X2_copyTo l dC dI q_t q_row q_joined q_from q_to q_size q_lossOf q_lessBy q_value q_number o_7 o_8 h0 a_v a_n cyI vs lo le fv fn o_11 o_12 o_14 o_15 r_21 H.size (om_475 n_25 (Int.natCast_nonneg _)) (by omega) w_5.2.2.2.1)) (cwV 2 hts gX4_vote_X2_copyTo rfl rfl rfl (by decide +kernel) ⟨Nat.le_of_ble_eq_true rfl, Nat.le_of_ble_eq_true rfl⟩) ⟨fun a U g mk q => by obtain ⟨q0, q1, qP, qK, qD⟩ := q; exact ⟨q0, q1, qP, va_K.moved (u := U) (U := U.calling g mk a) (Vm.Alike.refl U.vm) qK, qD⟩, kx_rc2 hKc hPc (q0 := 0) rfl, fun U hU hW => ⟨rfl, by rw [hU], by rw [hU]; exact hPc, va_K.moved hW.alike hKc, hDc.weaken (fun _ _ _ _ => trivial)⟩⟩ rfl rfl hl.1 rfl (lv_room (Nat.le_of_ble_eq_true rfl)) dX4_vote_84 ⟨Nat.le_of_ble_eq_true rfl, Nat.le_of_ble_eq_true rfl⟩) hS (fun q _ h => hFc q h) hFc (fun u t H1 locs ht hvm w_28 hB hz1 hk1 hS => ?_)
                obtain ⟨o_29, o_30, o_31, o_32⟩ := u
                dsimp only at w_28 hB
                obtain ⟨hP1, hK1, hD1⟩ := hB
                rw [ht] at hP1
                have hK1 := va_K.moved hvm.symm hK1
                obtain ⟨hP, hD⟩ := kx_joinM (w2 := [kx_4 m_ q_row q_t t_ h0 k0 w_ z_ slots o_6, kx_2 q_t q_row q_joined q_from q_to q_size q_lossOf q_lessBy q_value q_number o_7 o_8, kx_0 q_row q_cell len, kx_a q_cell cyI 160 f, kx_a q_from cyI 319 o_9, kx_a q_to cyI 319 o_10, kx_a q_size cyI 319 o_11, kx_a q_lossOf cyI 319 o_12, kx_a q_lessBy cyI 319 o_13, kx_a q_value cyI 1914 o_14, kx_a q_number cyI 1914 o_15, kx_3 q_joined j_v j_n o_16 o_17 o_18, kx_a j_v cyI 12 o_19, kx_a j_n cyI 12 o_20, kx_3 h0 a_v a_n o_29 o_30 0, kx_a a_v cyI 12 o_31, kx_a a_n cyI 12 o_32]) hP hD hP1 hD1 hk1 hFc [false, true, false, false, false, false, true, true, false, true, true, false, false, false, true, true, true] hCc rfl
                clear hP1 hD1 hK1 hk1 hz1 hFc hDc hPc hKc hCc
                generalize H1 = H at hP hS ⊢
                have w_28 : 0 ≤ o_29.toInt ∧ o_29.toInt ≤ 12 := w_28
                refine lv_iload hx hb dX4_vote_87 (lv_at hl 6 rfl) ?_
                refine lv_if_ne (tgt := 104) hx hb dX4_vote_89 (by decide) (fun c_33 => ?_) (fun c_33 => ?_)
                · have i_33 : ¬ p3.toInt = 0 := kc_ne c_33
                  refine lv_aload_n hx hb dX4_vote_104 rfl (lv_at hl 2 rfl) ?_
                  refine va_get (D := (dC, dI)) (ci := 4) (v := .ref h0) (C := RX4) (T := TX4) (N := 9) hx hb hts hi_4 hown hK hP 0 rfl rfl 3 (by decide) hf_35 (fun _ h9 => h9) rfl dX4_vote_105 ?_
                  refine va_get (D := (dC, dI)) (ci := 3) (v := .ref a_n) (C := RX3) (T := TX3) (N := 5) hx hb hts hi_3 hown hK hP 14 rfl rfl 1 (by decide) hf_136 (fun _ h9 => h9) rfl dX4_vote_108 ?_
                  refine lv_iload_n hx hb dX4_vote_111 rfl (lv_at hl 5 rfl) ?_
                  refine va_iald hx hb hK hP 16 0 rfl rfl (ki_in (om_10 i_23) (om_476 j_24 i_26.2 i_27)) dX4_vote_112 ?_
                  refine lv_topi (fun y_34 ey_34 => ?_)
                  have j_34 : y_34.toInt = (o_32 p2.toNatClampNeg).toInt := congrArg Int32.toInt ey_34
                  refine vx_ret ?_
                  have hP9 := hP
                  have hD9 := hD
                  have hK9 := hK
                  refine W.widen (k := 1) (n := 6) (Nat.le_of_ble_eq_true rfl) (Nat.le_of_ble_eq_true rfl) ?_
                  exact W.iret (v := y_34) hx hb hr (hlocks := hlocks) (fun t ht hW => ⟨⟨y_34, (o_6, o_7, o_8, o_9, o_10, o_11, o_12, o_13, o_14, o_15, o_16, o_17, o_18, o_19, o_20, o_29, o_30, 0, o_31, o_32), rfl, ⟨(by decide), (fun _ => ⟨(by (try dsimp only); omega), (by (try dsimp only); omega), w_5.2.2.2.2⟩), w_5.2.2.2.1⟩, by rw [ht]; exact hP9, va_K.moved hW.alike hK9, hD9⟩, hS.F ht⟩) hS.2.2 dX4_vote_113
                · have i_33 : p3.toInt = 0 := kc_eq c_33
                  refine lv_aload_n hx hb dX4_vote_92 rfl (lv_at hl 2 rfl) ?_
                  refine va_get (D := (dC, dI)) (ci := 4) (v := .ref h0) (C := RX4) (T := TX4) (N := 9) hx hb hts hi_4 hown hK hP 0 rfl rfl 3 (by decide) hf_35 (fun _ h9 => h9) rfl dX4_vote_93 ?_
                  refine va_get (D := (dC, dI)) (ci := 3) (v := .ref a_v) (C := RX3) (T := TX3) (N := 5) hx hb hts hi_3 hown hK hP 14 rfl rfl 0 (by decide) hf_133 (fun _ h9 => h9) rfl dX4_vote_96 ?_
                  refine lv_iload_n hx hb dX4_vote_99 rfl (lv_at hl 5 rfl) ?_
                  refine va_iald hx hb hK hP 15 0 rfl rfl (ki_in (om_10 i_23) (om_476 j_24 i_26.2 i_27)) dX4_vote_100 ?_
                  refine lv_topi (fun y_35 ey_35 => ?_)
                  have j_35 : y_35.toInt = (o_31 p2.toNatClampNeg).toInt := congrArg Int32.toInt ey_35
                  refine lv_goto (tgt := 113) hx hb dX4_vote_101 (by decide) ?_
                  refine vx_ret ?_
                  have hP9 := hP
                  have hD9 := hD
                  have hK9 := hK
                  refine W.widen (k := 1) (n := 6) (Nat.le_of_ble_eq_true rfl) (Nat.le_of_ble_eq_true rfl) ?_
                  exact W.iret (v := y_35) hx hb hr (hlocks := hlocks) (fun t ht hW => ⟨⟨y_35, (o_6, o_7, o_8, o_9, o_10, o_11, o_12, o_13, o_14, o_15, o_16, o_17, o_18, o_19, o_20, o_29, o_30, 0, o_31, o_32), rfl, ⟨(by decide), (fun _ => ⟨(by (try dsimp only); omega), (by (try dsimp only); omega), w_5.2.2.2.2⟩), w_5.2.2.2.1⟩, by rw [ht]; exact hP9, va_K.moved hW.alike hK9, hD9⟩, hS.F ht⟩) hS.2.2 dX4_vote_113
              · have i_27 : y_24.toInt ≤ p2.toInt := kc_nlt c_27
                have hP9 := hP.sub (ws' := [kx_4 m_ q_row q_t t_ h0 k0 w_ z_ slots o_6, kx_2 q_t q_row q_joined q_from q_to q_size q_lossOf q_lessBy q_value q_number o_7 o_8, kx_0 q_row q_cell len, kx_a q_cell cyI 160 f, kx_a q_from cyI 319 o_9, kx_a q_to cyI 319 o_10, kx_a q_size cyI 319 o_11, kx_a q_lossOf cyI 319 o_12, kx_a q_lessBy cyI 319 o_13, kx_a q_value cyI 1914 o_14, kx_a q_number cyI 1914 o_15, kx_3 q_joined j_v j_n o_16 o_17 o_18, kx_a j_v cyI 12 o_19, kx_a j_n cyI 12 o_20, kx_3 h0 a_v a_n vs lo le, kx_a a_v cyI 12 fv, kx_a a_n cyI 12 fn]) [0, 1, 2, 3, 4, 5, 6, 7, 8, 9, 10, 11, 12, 13, 14, 15, 16] rfl
                have hD9 := hD.sub (ws' := [kx_4 m_ q_row q_t t_ h0 k0 w_ z_ slots o_6, kx_2 q_t q_row q_joined q_from q_to q_size q_lossOf q_lessBy q_value q_number o_7 o_8, kx_0 q_row q_cell len, kx_a q_cell cyI 160 f, kx_a q_from cyI 319 o_9, kx_a q_to cyI 319 o_10, kx_a q_size cyI 319 o_11, kx_a q_lossOf cyI 319 o_12, kx_a q_lessBy cyI 319 o_13, kx_a q_value cyI 1914 o_14, kx_a q_number cyI 1914 o_15, kx_3 q_joined j_v j_n o_16 o_17 o_18, kx_a j_v cyI 12 o_19, kx_a j_n cyI 12 o_20, kx_3 h0 a_v a_n vs lo le, kx_a a_v cyI 12 fv, kx_a a_n cyI 12 fn]) [0, 1, 2, 3, 4, 5, 6, 7, 8, 9, 10, 11, 12, 13, 14, 15, 16] (by decide) rfl
                have hK9 := hK.sub (tys' := [(cyI, .int)]) [0] rfl
                exact vx_throw0 (names := EXC) hx hb hl0 hown (by decide +kernel) (by decide +kernel) hc_107 hz_ex hat ki_ot hth.2.1 hth.2.2 hS (hl.1.trans hml.symm) dX4_vote_68 dX4_vote_71 dX4_vote_72 dX4_vote_75 (fun x h => (htab x h).elim) (Nat.le_of_ble_eq_true rfl) (Nat.le_of_ble_eq_true rfl) (Nat.le_of_ble_eq_true rfl) (Nat.le_of_ble_eq_true rfl) hlocks (fun t ha hz hk => ⟨(o_6, o_7, o_8, o_9, o_10, o_11, o_12, o_13, o_14, o_15, o_16, o_17, o_18, o_19, o_20, vs, lo, le, fv, fn), ⟨(by decide), (fun _ => ⟨(by (try dsimp only); omega), (by (try dsimp only); omega), w_5.2.2.2.2⟩), w_5.2.2.2.1⟩, ⟨rfl, hP9.kept (fun k x hx => hk x.1 ((hP9 k x hx).lt)), va_K.moved ha hK9, hD9⟩, Nat.le_trans hS.1 hz, fun q h1 h2 => (hk q (Nat.lt_of_lt_of_le h1 hS.1)).trans (hS.2.1 q h1 h2)⟩) hS.2.2 (Nat.le_refl _) (Nat.le_refl _)
        · have i_4 : 1 < p3.toInt := kc_nle c_4
          have hP9 := hP.sub (ws' := [kx_4 m_ q_row q_t t_ h0 k0 w_ z_ slots old, kx_2 q_t q_row q_joined q_from q_to q_size q_lossOf q_lessBy q_value q_number nodes here, kx_0 q_row q_cell len, kx_a q_cell cyI 160 f, kx_a q_from cyI 319 ff, kx_a q_to cyI 319 ft, kx_a q_size cyI 319 fs, kx_a q_lossOf cyI 319 fo, kx_a q_lessBy cyI 319 fe, kx_a q_value cyI 1914 uv, kx_a q_number cyI 1914 un, kx_3 q_joined j_v j_n js jl je, kx_a j_v cyI 12 jv, kx_a j_n cyI 12 jn, kx_3 h0 a_v a_n vs lo le, kx_a a_v cyI 12 fv, kx_a a_n cyI 12 fn]) [0, 1, 2, 3, 4, 5, 6, 7, 8, 9, 10, 11, 12, 13, 14, 15, 16] rfl
          have hD9 := hD.sub (ws' := [kx_4 m_ q_row q_t t_ h0 k0 w_ z_ slots old, kx_2 q_t q_row q_joined q_from q_to q_size q_lossOf q_lessBy q_value q_number nodes here, kx_0 q_row q_cell len, kx_a q_cell cyI 160 f, kx_a q_from cyI 319 ff, kx_a q_to cyI 319 ft, kx_a q_size cyI 319 fs, kx_a q_lossOf cyI 319 fo, kx_a q_lessBy cyI 319 fe, kx_a q_value cyI 1914 uv, kx_a q_number cyI 1914 un, kx_3 q_joined j_v j_n js jl je, kx_a j_v cyI 12 jv, kx_a j_n cyI 12 jn, kx_3 h0 a_v a_n vs lo le, kx_a a_v cyI 12 fv, kx_a a_n cyI 12 fn]) [0, 1, 2, 3, 4, 5, 6, 7, 8, 9, 10, 11, 12, 13, 14, 15, 16] (by decide) rfl
          have hK9 := hK.sub (tys' := [(cyI, .int)]) [0] rfl
          exact vx_throw0 (names := EXC) hx hb hl0 hown (by decide +kernel) (by decide +kernel) hc_107 hz_ex hat ki_ot hth.2.1 hth.2.2 hS (hl.1.trans hml.symm) dX4_vote_23 dX4_vote_26 dX4_vote_27 dX4_vote_30 (fun x h => (htab x h).elim) (Nat.le_of_ble_eq_true rfl) (Nat.le_of_ble_eq_true rfl) (Nat.le_of_ble_eq_true rfl) (Nat.le_of_ble_eq_true rfl) hlocks (fun t ha hz hk => ⟨(old, nodes, here, ff, ft, fs, fo, fe, uv, un, js, jl, je, jv, jn, vs, lo, le, fv, fn), ⟨(by decide), l0, s0⟩, ⟨rfl, hP9.kept (fun k x hx => hk x.1 ((hP9 k x hx).lt)), va_K.moved ha hK9, hD9⟩, Nat.le_trans hS.1 hz, fun q h1 h2 => (hk q (Nat.lt_of_lt_of_le h1 hS.1)).trans (hS.2.1 q h1 h2)⟩) hS.2.2 (Nat.le_refl _) (Nat.le_refl _)
  · have w_1 : (p0.toInt < 0 ∨ p1.toInt ≤ p0.toInt ∨ len.toInt < p1.toInt) := w_1
    refine lv_if_eq (tgt := 23) hx hb dX4_vote_9 (by decide) (fun c_36 => ?_) (fun c_36 => ?_)
    · have hP9 := hP.sub (ws' := [kx_4 m_ q_row q_t t_ h0 k0 w_ z_ slots old, kx_2 q_t q_row q_joined q_from q_to q_size q_lossOf q_lessBy q_value q_number nodes here, kx_0 q_row q_cell len, kx_a q_cell cyI 160 f, kx_a q_from cyI 319 ff, kx_a q_to cyI 319 ft, kx_a q_size cyI 319 fs, kx_a q_lossOf cyI 319 fo, kx_a q_lessBy cyI 319 fe, kx_a q_value cyI 1914 uv, kx_a q_number cyI 1914 un, kx_3 q_joined j_v j_n js jl je, kx_a j_v cyI 12 jv, kx_a j_n cyI 12 jn, kx_3 h0 a_v a_n vs lo le, kx_a a_v cyI 12 fv, kx_a a_n cyI 12 fn]) [0, 1, 2, 3, 4, 5, 6, 7, 8, 9, 10, 11, 12, 13, 14, 15, 16] rfl
      have hD9 := hD.sub (ws' := [kx_4 m_ q_row q_t t_ h0 k0 w_ z_ slots old, kx_2 q_t q_row q_joined q_from q_to q_size q_lossOf q_lessBy q_value q_number nodes here, kx_0 q_row q_cell len, kx_a q_cell cyI 160 f, kx_a q_from cyI 319 ff, kx_a q_to cyI 319 ft, kx_a q_size cyI 319 fs, kx_a q_lossOf cyI 319 fo, kx_a q_lessBy cyI 319 fe, kx_a q_value cyI 1914 uv, kx_a q_number cyI 1914 un, kx_3 q_joined j_v j_n js jl je, kx_a j_v cyI 12 jv, kx_a j_n cyI 12 jn, kx_3 h0 a_v a_n vs lo le, kx_a a_v cyI 12 fv, kx_a a_n cyI 12 fn]) [0, 1, 2, 3, 4, 5, 6, 7, 8, 9, 10, 11, 12, 13, 14, 15, 16] (by decide) rfl
      have hK9 := hK.sub (tys' := [(cyI, .int)]) [0] rfl
      exact vx_throw0 (names := EXC) hx hb hl0 hown (by decide +kernel) (by decide +kernel) hc_107 hz_ex hat ki_ot hth.2.1 hth.2.2 hS (hl.1.trans hml.symm) dX4_vote_23 dX4_vote_26 dX4_vote_27 dX4_vote_30 (fun x h => (htab x h).elim) (Nat.le_of_ble_eq_true rfl) (Nat.le_of_ble_eq_true rfl) (Nat.le_of_ble_eq_true rfl) (Nat.le_of_ble_eq_true rfl) hlocks (fun t ha hz hk => ⟨(old, nodes, here, ff, ft, fs, fo, fe, uv, un, js, jl, je, jv, jn, vs, lo, le, fv, fn), ⟨(by decide), l0, s0⟩, ⟨rfl, hP9.kept (fun k x hx => hk x.1 ((hP9 k x hx).lt)), va_K.moved ha hK9, hD9⟩, Nat.le_trans hS.1 hz, fun q h1 h2 => (hk q (Nat.lt_of_lt_of_le h1 hS.1)).trans (hS.2.1 q h1 h2)⟩) hS.2.2 (Nat.le_refl _) (Nat.le_refl _)
    · exact absurd c_36 (by decide)

set_option maxHeartbeats 4000000 in
set_option maxRecDepth 100000 in
theorem c_X4_candidate (l : Launch) (hl0 : l.stackTraces = false) (dC : Nat → ClassId) (dI : Nat → Nat → Nat) (m_ : Nat) (q_row : Nat) (q_t : Nat) (t_ : Nat) (h0 : Nat) (k0 : Nat) (w_ : Nat) (z_ : Nat) (slots : Int32) (old : Int32) (q_joined : Nat) (q_from : Nat) (q_to : Nat) (q_size : Nat) (q_lossOf : Nat) (q_lessBy : Nat) (q_value : Nat) (q_number : Nat) (nodes : Int32) (here : Int32) (q_cell : Nat) (cyI : ClassId) (len : Int32) (f : Nat → Int32) (ff : Nat → Int32) (ft : Nat → Int32) (fs : Nat → Int32) (fo : Nat → Int32) (uv : Nat → Int32) (un : Nat → Int32) (fe : Nat → Int32) (j_v : Nat) (j_n : Nat) (js : Int32) (jl : Int32) (je : Int32) (jv : Nat → Int32) (jn : Nat → Int32) (a_v : Nat) (a_n : Nat) (vs : Int32) (lo : Int32) (le : Int32) (fv : Nat → Int32) (fn : Nat → Int32) (p0 : Int32) (p1 : Int32) (p2 : Int32) (p3 : Int32) (sz : Nat) (a0 : 0 ≤ len.toInt) (a1 : len.toInt ≤ 160) (s0 : sixes fs) (l0 : laidP old ff ft nodes len) : vx_Met l yX4_candidate wsX4_candidate ({ frames := 8, cells := 1, slots := 6, locals := 360 }) (va_Pc [.ref m_, .int p0, .int p1, .int p2, .int p3] (fun U => U.heap.size = sz ∧ va_P (dC, dI) vwCl [kx_4 m_ q_row q_t t_ h0 k0 w_ z_ slots old, kx_2 q_t q_row q_joined q_from q_to q_size q_lossOf q_lessBy q_value q_number nodes here, kx_0 q_row q_cell len, kx_a q_cell cyI 160 f, kx_a q_from cyI 319 ff, kx_a q_to cyI 319 ft, kx_a q_size cyI 319 fs, kx_a q_lossOf cyI 319 fo, kx_a q_lessBy cyI 319 fe, kx_a q_value cyI 1914 uv, kx_a q_number cyI 1914 un, kx_3 q_joined j_v j_n js jl je, kx_a j_v cyI 12 jv, kx_a j_n cyI 12 jn, kx_3 h0 a_v a_n vs lo le, kx_a a_v cyI 12 fv, kx_a a_n cyI 12 fn] U.heap ∧ va_K (dC, dI) vwCl [(cyI, .int)] U ∧ va_D (fun _ => True) [kx_4 m_ q_row q_t t_ h0 k0 w_ z_ slots old, kx_2 q_t q_row q_joined q_from q_to q_size q_lossOf q_lessBy q_value q_number nodes here, kx_0 q_row q_cell len, kx_a q_cell cyI 160 f, kx_a q_from cyI 319 ff, kx_a q_to cyI 319 ft, kx_a q_size cyI 319 fs, kx_a q_lossOf cyI 319 fo, kx_a q_lessBy cyI 319 fe, kx_a q_value cyI 1914 uv, kx_a q_number cyI 1914 un, kx_3 q_joined j_v j_n js jl je, kx_a j_v cyI 12 jv, kx_a j_n cyI 12 jn, kx_3 h0 a_v a_n vs lo le, kx_a a_v cyI 12 fv, kx_a a_n cyI 12 fn] ∧ ki_ThA (va_A [kx_4 m_ q_row q_t t_ h0 k0 w_ z_ slots old, kx_2 q_t q_row q_joined q_from q_to q_size q_lossOf q_lessBy q_value q_number nodes here, kx_0 q_row q_cell len, kx_a q_cell cyI 160 f, kx_a q_from cyI 319 ff, kx_a q_to cyI 319 ft, kx_a q_size cyI 319 fs, kx_a q_lossOf cyI 319 fo, kx_a q_lessBy cyI 319 fe, kx_a q_value cyI 1914 uv, kx_a q_number cyI 1914 un, kx_3 q_joined j_v j_n js jl je, kx_a j_v cyI 12 jv, kx_a j_n cyI 12 jn, kx_3 h0 a_v a_n vs lo le, kx_a a_v cyI 12 fv, kx_a a_n cyI 12 fn] sz) U)) (va_Qi (fun (r : Int32) (u : Int32 × Int32 × Int32 × (Nat → Int32) × (Nat → Int32) × (Nat → Int32) × (Nat → Int32) × (Nat → Int32) × (Nat → Int32) × (Nat → Int32) × Int32 × Int32 × Int32 × (Nat → Int32) × (Nat → Int32) × Int32 × Int32 × Int32 × (Nat → Int32) × (Nat → Int32)) => (0 : Int) ≤ 1 ∧ laidP u.1 u.2.2.2.1 u.2.2.2.2.1 u.2.1 len ∧ sixes u.2.2.2.2.2.1) (fun (u : Int32 × Int32 × Int32 × (Nat → Int32) × (Nat → Int32) × (Nat → Int32) × (Nat → Int32) × (Nat → Int32) × (Nat → Int32) × (Nat → Int32) × Int32 × Int32 × Int32 × (Nat → Int32) × (Nat → Int32) × Int32 × Int32 × Int32 × (Nat → Int32) × (Nat → Int32)) (t : State) => va_P (dC, dI) vwCl [kx_4 m_ q_row q_t t_ h0 k0 w_ z_ slots u.1, kx_2 q_t q_row q_joined q_from q_to q_size q_lossOf q_lessBy q_value q_number u.2.1 u.2.2.1, kx_0 q_row q_cell len, kx_a q_cell cyI 160 f, kx_a q_from cyI 319 u.2.2.2.1, kx_a q_to cyI 319 u.2.2.2.2.1, kx_a q_size cyI 319 u.2.2.2.2.2.1, kx_a q_lossOf cyI 319 u.2.2.2.2.2.2.1, kx_a q_lessBy cyI 319 u.2.2.2.2.2.2.2.1, kx_a q_value cyI 1914 u.2.2.2.2.2.2.2.2.1, kx_a q_number cyI 1914 u.2.2.2.2.2.2.2.2.2.1, kx_3 q_joined j_v j_n u.2.2.2.2.2.2.2.2.2.2.1 u.2.2.2.2.2.2.2.2.2.2.2.1 u.2.2.2.2.2.2.2.2.2.2.2.2.1, kx_a j_v cyI 12 u.2.2.2.2.2.2.2.2.2.2.2.2.2.1, kx_a j_n cyI 12 u.2.2.2.2.2.2.2.2.2.2.2.2.2.2.1, kx_3 h0 a_v a_n u.2.2.2.2.2.2.2.2.2.2.2.2.2.2.2.1 u.2.2.2.2.2.2.2.2.2.2.2.2.2.2.2.2.1 u.2.2.2.2.2.2.2.2.2.2.2.2.2.2.2.2.2.1, kx_a a_v cyI 12 u.2.2.2.2.2.2.2.2.2.2.2.2.2.2.2.2.2.2.1, kx_a a_n cyI 12 u.2.2.2.2.2.2.2.2.2.2.2.2.2.2.2.2.2.2.2] t.heap ∧ va_K (dC, dI) vwCl [(cyI, .int)] t ∧ va_D (va_A [kx_4 m_ q_row q_t t_ h0 k0 w_ z_ slots old, kx_2 q_t q_row q_joined q_from q_to q_size q_lossOf q_lessBy q_value q_number nodes here, kx_0 q_row q_cell len, kx_a q_cell cyI 160 f, kx_a q_from cyI 319 ff, kx_a q_to cyI 319 ft, kx_a q_size cyI 319 fs, kx_a q_lossOf cyI 319 fo, kx_a q_lessBy cyI 319 fe, kx_a q_value cyI 1914 uv, kx_a q_number cyI 1914 un, kx_3 q_joined j_v j_n js jl je, kx_a j_v cyI 12 jv, kx_a j_n cyI 12 jn, kx_3 h0 a_v a_n vs lo le, kx_a a_v cyI 12 fv, kx_a a_n cyI 12 fn] sz) [kx_4 m_ q_row q_t t_ h0 k0 w_ z_ slots u.1, kx_2 q_t q_row q_joined q_from q_to q_size q_lossOf q_lessBy q_value q_number u.2.1 u.2.2.1, kx_0 q_row q_cell len, kx_a q_cell cyI 160 f, kx_a q_from cyI 319 u.2.2.2.1, kx_a q_to cyI 319 u.2.2.2.2.1, kx_a q_size cyI 319 u.2.2.2.2.2.1, kx_a q_lossOf cyI 319 u.2.2.2.2.2.2.1, kx_a q_lessBy cyI 319 u.2.2.2.2.2.2.2.1, kx_a q_value cyI 1914 u.2.2.2.2.2.2.2.2.1, kx_a q_number cyI 1914 u.2.2.2.2.2.2.2.2.2.1, kx_3 q_joined j_v j_n u.2.2.2.2.2.2.2.2.2.2.1 u.2.2.2.2.2.2.2.2.2.2.2.1 u.2.2.2.2.2.2.2.2.2.2.2.2.1, kx_a j_v cyI 12 u.2.2.2.2.2.2.2.2.2.2.2.2.2.1, kx_a j_n cyI 12 u.2.2.2.2.2.2.2.2.2.2.2.2.2.2.1, kx_3 h0 a_v a_n u.2.2.2.2.2.2.2.2.2.2.2.2.2.2.2.1 u.2.2.2.2.2.2.2.2.2.2.2.2.2.2.2.2.1 u.2.2.2.2.2.2.2.2.2.2.2.2.2.2.2.2.2.1, kx_a a_v cyI 12 u.2.2.2.2.2.2.2.2.2.2.2.2.2.2.2.2.2.2.1, kx_a a_n cyI 12 u.2.2.2.2.2.2.2.2.2.2.2.2.2.2.2.2.2.2.2]) (va_A [kx_4 m_ q_row q_t t_ h0 k0 w_ z_ slots old, kx_2 q_t q_row q_joined q_from q_to q_size q_lossOf q_lessBy q_value q_number nodes here, kx_0 q_row q_cell len, kx_a q_cell cyI 160 f, kx_a q_from cyI 319 ff, kx_a q_to cyI 319 ft, kx_a q_size cyI 319 fs, kx_a q_lossOf cyI 319 fo, kx_a q_lessBy cyI 319 fe, kx_a q_value cyI 1914 uv, kx_a q_number cyI 1914 un, kx_3 q_joined j_v j_n js jl je, kx_a j_v cyI 12 jv, kx_a j_n cyI 12 jn, kx_3 h0 a_v a_n vs lo le, kx_a a_v cyI 12 fv, kx_a a_n cyI 12 fn] sz)) (vx_X (fun u : Int32 × Int32 × Int32 × (Nat → Int32) × (Nat → Int32) × (Nat → Int32) × (Nat → Int32) × (Nat → Int32) × (Nat → Int32) × (Nat → Int32) × Int32 × Int32 × Int32 × (Nat → Int32) × (Nat → Int32) × Int32 × Int32 × Int32 × (Nat → Int32) × (Nat → Int32) => (0 : Int) ≤ 1 ∧ laidP u.1 u.2.2.2.1 u.2.2.2.2.1 u.2.1 len ∧ sixes u.2.2.2.2.2.1) (fun (E : String) (u : Int32 × Int32 × Int32 × (Nat → Int32) × (Nat → Int32) × (Nat → Int32) × (Nat → Int32) × (Nat → Int32) × (Nat → Int32) × (Nat → Int32) × Int32 × Int32 × Int32 × (Nat → Int32) × (Nat → Int32) × Int32 × Int32 × Int32 × (Nat → Int32) × (Nat → Int32)) (t : State) => E = EXN ∧ va_P (dC, dI) vwCl [kx_4 m_ q_row q_t t_ h0 k0 w_ z_ slots u.1, kx_2 q_t q_row q_joined q_from q_to q_size q_lossOf q_lessBy q_value q_number u.2.1 u.2.2.1, kx_0 q_row q_cell len, kx_a q_cell cyI 160 f, kx_a q_from cyI 319 u.2.2.2.1, kx_a q_to cyI 319 u.2.2.2.2.1, kx_a q_size cyI 319 u.2.2.2.2.2.1, kx_a q_lossOf cyI 319 u.2.2.2.2.2.2.1, kx_a q_lessBy cyI 319 u.2.2.2.2.2.2.2.1, kx_a q_value cyI 1914 u.2.2.2.2.2.2.2.2.1, kx_a q_number cyI 1914 u.2.2.2.2.2.2.2.2.2.1, kx_3 q_joined j_v j_n u.2.2.2.2.2.2.2.2.2.2.1 u.2.2.2.2.2.2.2.2.2.2.2.1 u.2.2.2.2.2.2.2.2.2.2.2.2.1, kx_a j_v cyI 12 u.2.2.2.2.2.2.2.2.2.2.2.2.2.1, kx_a j_n cyI 12 u.2.2.2.2.2.2.2.2.2.2.2.2.2.2.1, kx_3 h0 a_v a_n u.2.2.2.2.2.2.2.2.2.2.2.2.2.2.2.1 u.2.2.2.2.2.2.2.2.2.2.2.2.2.2.2.2.1 u.2.2.2.2.2.2.2.2.2.2.2.2.2.2.2.2.2.1, kx_a a_v cyI 12 u.2.2.2.2.2.2.2.2.2.2.2.2.2.2.2.2.2.2.1, kx_a a_n cyI 12 u.2.2.2.2.2.2.2.2.2.2.2.2.2.2.2.2.2.2.2] t.heap ∧ va_K (dC, dI) vwCl [(cyI, .int)] t ∧ va_D (va_A [kx_4 m_ q_row q_t t_ h0 k0 w_ z_ slots old, kx_2 q_t q_row q_joined q_from q_to q_size q_lossOf q_lessBy q_value q_number nodes here, kx_0 q_row q_cell len, kx_a q_cell cyI 160 f, kx_a q_from cyI 319 ff, kx_a q_to cyI 319 ft, kx_a q_size cyI 319 fs, kx_a q_lossOf cyI 319 fo, kx_a q_lessBy cyI 319 fe, kx_a q_value cyI 1914 uv, kx_a q_number cyI 1914 un, kx_3 q_joined j_v j_n js jl je, kx_a j_v cyI 12 jv, kx_a j_n cyI 12 jn, kx_3 h0 a_v a_n vs lo le, kx_a a_v cyI 12 fv, kx_a a_n cyI 12 fn] sz) [kx_4 m_ q_row q_t t_ h0 k0 w_ z_ slots u.1, kx_2 q_t q_row q_joined q_from q_to q_size q_lossOf q_lessBy q_value q_number u.2.1 u.2.2.1, kx_0 q_row q_cell len, kx_a q_cell cyI 160 f, kx_a q_from cyI 319 u.2.2.2.1, kx_a q_to cyI 319 u.2.2.2.2.1, kx_a q_size cyI 319 u.2.2.2.2.2.1, kx_a q_lossOf cyI 319 u.2.2.2.2.2.2.1, kx_a q_lessBy cyI 319 u.2.2.2.2.2.2.2.1, kx_a q_value cyI 1914 u.2.2.2.2.2.2.2.2.1, kx_a q_number cyI 1914 u.2.2.2.2.2.2.2.2.2.1, kx_3 q_joined j_v j_n u.2.2.2.2.2.2.2.2.2.2.1 u.2.2.2.2.2.2.2.2.2.2.2.1 u.2.2.2.2.2.2.2.2.2.2.2.2.1, kx_a j_v cyI 12 u.2.2.2.2.2.2.2.2.2.2.2.2.2.1, kx_a j_n cyI 12 u.2.2.2.2.2.2.2.2.2.2.2.2.2.2.1, kx_3 h0 a_v a_n u.2.2.2.2.2.2.2.2.2.2.2.2.2.2.2.1 u.2.2.2.2.2.2.2.2.2.2.2.2.2.2.2.2.1 u.2.2.2.2.2.2.2.2.2.2.2.2.2.2.2.2.2.1, kx_a a_v cyI 12 u.2.2.2.2.2.2.2.2.2.2.2.2.2.2.2.2.2.2.1, kx_a a_n cyI 12 u.2.2.2.2.2.2.2.2.2.2.2.2.2.2.2.2.2.2.2]) (va_A [kx_4 m_ q_row q_t t_ h0 k0 w_ z_ slots old, kx_2 q_t q_row q_joined q_from q_to q_size q_lossOf q_lessBy q_value q_number nodes here, kx_0 q_row q_cell len, kx_a q_cell cyI 160 f, kx_a q_from cyI 319 ff, kx_a q_to cyI 319 ft, kx_a q_size cyI 319 fs, kx_a q_lossOf cyI 319 fo, kx_a q_lessBy cyI 319 fe, kx_a q_value cyI 1914 uv, kx_a q_number cyI 1914 un, kx_3 q_joined j_v j_n js jl je, kx_a j_v cyI 12 jv, kx_a j_n cyI 12 jn, kx_3 h0 a_v a_n vs lo le, kx_a a_v cyI 12 fv, kx_a a_n cyI 12 fn] sz)) 1 6 (va_A [kx_4 m_ q_row q_t t_ h0 k0 w_ z_ slots old, kx_2 q_t q_row q_joined q_from q_to q_size q_lossOf q_lessBy q_value q_number nodes here, kx_0 q_row q_cell len, kx_a q_cell cyI 160 f, kx_a q_from cyI 319 ff, kx_a q_to cyI 319 ft, kx_a q_size cyI 319 fs, kx_a q_lossOf cyI 319 fo, kx_a q_lessBy cyI 319 fe, kx_a q_value cyI 1914 uv, kx_a q_number cyI 1914 un, kx_3 q_joined j_v j_n js jl je, kx_a j_v cyI 12 jv, kx_a j_n cyI 12 jn, kx_3 h0 a_v a_n vs lo le, kx_a a_v cyI 12 fv, kx_a a_n cyI 12 fn] sz) := by
  refine vx_ofW (cc := cX4_candidate) (maxL := 5) (ret := (some .int)) (by decide) rfl ?_
  intro p e s m args below meth c s₁ B hml htab hv
  obtain ⟨rfl, hsz, hP, hK, hD0, hth⟩ := hv
  have hx := B.exec
  have hb := B.bytes
  have hr := B.returns
  have hts := atoms_spec (ws := wsX4_candidate) B.pre
  have hown : s.vm.findClass RX4 = some m.cls := findClass_of_methodNamed B.named
  have hlocks := B.notSynchronized
  have hat : ∀ w ∈ vx_at0 RX4 109 EXN EXC, w.before _ s = true := vx_hat (B := EXD) (fun w h => hts w (List.mem_cons_of_mem _ (List.mem_append_right _ h))) ki_bad (ki_ex hth)
  subst hsz
  have hD := hD0.self (sz := s.heap.size)
  generalize hAe : va_A [kx_4 m_ q_row q_t t_ h0 k0 w_ z_ slots old, kx_2 q_t q_row q_joined q_from q_to q_size q_lossOf q_lessBy q_value q_number nodes here, kx_0 q_row q_cell len, kx_a q_cell cyI 160 f, kx_a q_from cyI 319 ff, kx_a q_to cyI 319 ft, kx_a q_size cyI 319 fs, kx_a q_lossOf cyI 319 fo, kx_a q_lessBy cyI 319 fe, kx_a q_value cyI 1914 uv, kx_a q_number cyI 1914 un, kx_3 q_joined j_v j_n js jl je, kx_a j_v cyI 12 jv, kx_a j_n cyI 12 jn, kx_3 h0 a_v a_n vs lo le, kx_a a_v cyI 12 fv, kx_a a_n cyI 12 fn] s.heap.size = A at hD hth ⊢
  have hA : ∀ q : Nat, s.heap.size ≤ q → A q := fun q h => by rw [← hAe]; exact Or.inr h
  have hS : va_S A s.heap s.heap [] := va_S.rf
  have hP : va_P (dC, dI) vwCl [kx_4 m_ q_row q_t t_ h0 k0 w_ z_ slots old, kx_2 q_t q_row q_joined q_from q_to q_size q_lossOf q_lessBy q_value q_number nodes here, kx_0 q_row q_cell len, kx_a q_cell cyI 160 f, kx_a q_from cyI 319 ff, kx_a q_to cyI 319 ft, kx_a q_size cyI 319 fs, kx_a q_lossOf cyI 319 fo, kx_a q_lessBy cyI 319 fe, kx_a q_value cyI 1914 uv, kx_a q_number cyI 1914 un, kx_3 q_joined j_v j_n js jl je, kx_a j_v cyI 12 jv, kx_a j_n cyI 12 jn, kx_3 h0 a_v a_n vs lo le, kx_a a_v cyI 12 fv, kx_a a_n cyI 12 fn] s.heap := hP
  have hl := lv_entry ([.ref m_, .int p0, .int p1, .int p2, .int p3]) (n := 5) (Nat.le_of_ble_eq_true rfl)
  rw [lg_entry_eq]
  generalize (lg_sl ([.ref m_, .int p0, .int p1, .int p2, .int p3]) ++ List.replicate (5 - (lg_sl ([.ref m_, .int p0, .int p1, .int p2, .int p3])).length) Slot.unset).toArray = ls at hl ⊢
  have hl : lv_has ls 5 [(0, .ref m_), (1, .int p0), (2, .int p1), (3, .int p2), (4, .int p3)] := hl
  have hf_12 := hts (.fieldLink RX4 12 "MajorityIndex" "row" "LMajorityIndex$Row;") (List.mem_of_getElem? (i := 3) rfl)
  have hi_4 : ∀ w ∈ u_ws RX4 TX4 9, w ∈ wsX4_candidate := fun w h => List.mem_cons_of_mem _ (List.mem_append_left _ (List.mem_append_left _ (List.mem_append_left _ (List.mem_append_left _ (List.mem_append_right _ h)))))
  have hc_107 := hts (.classLink RX4 107 EXN) (by decide +kernel)
  have hz_ex := hts (.initialized EXN) (by decide +kernel)
  have hf_35 := hts (.fieldLink RX4 35 "MajorityIndex" "votes" "LMajorityIndex$Votes;") (List.mem_of_getElem? (i := 4) rfl)
  have hf_174 := hts (.fieldLink RX4 174 "MajorityIndex$Votes" "size" "I") (List.mem_of_getElem? (i := 5) rfl)
  have hi_3 : ∀ w ∈ u_ws RX3 TX3 5, w ∈ wsX4_candidate := fun w h => List.mem_cons_of_mem _ (List.mem_append_left _ (List.mem_append_left _ (List.mem_append_left _ (List.mem_append_right _ h))))
  have hf_133 := hts (.fieldLink RX4 133 "MajorityIndex$Votes" "value" "[I") (List.mem_of_getElem? (i := 6) rfl)
  have hf_136 := hts (.fieldLink RX4 136 "MajorityIndex$Votes" "number" "[I") (List.mem_of_getElem? (i := 7) rfl)
  refine lv_aload_n hx hb dX4_candidate_0 rfl (lv_at hl 0 rfl) ?_
  refine va_get (D := (dC, dI)) (ci := 4) (v := .ref q_row) (C := RX4) (T := TX4) (N := 9) hx hb hts hi_4 hown hK hP 0 rfl rfl 0 (by decide) hf_12 (fun _ h9 => h9) rfl dX4_candidate_1 ?_
  refine lv_iload_n hx hb dX4_candidate_4 rfl (lv_at hl 1 rfl) ?_
  refine lv_iload_n hx hb dX4_candidate_5 rfl (lv_at hl 2 rfl) ?_
  have hPc := hP.sub (ws' := [kx_0 q_row q_cell len]) [2] rfl
  have hKc := hK.sub (tys' := []) [] rfl
  refine vp_callSi (W.runV (As := [.int p0, .int p1]) (rest := []) ⟨hx, hb, hml, hown, hts⟩ (c_X0_hasRange l dC dI q_row q_cell len p0 p1) (cwV 2 hts gX4_candidate_X0_hasRange rfl rfl rfl (by decide +kernel) ⟨Nat.le_of_ble_eq_true rfl, Nat.le_of_ble_eq_true rfl⟩) ⟨fun a U g mk q => by obtain ⟨q0, qP, qK⟩ := q; exact ⟨q0, qP, va_K.moved (u := U) (U := U.calling g mk a) (Vm.Alike.refl U.vm) qK⟩, kx_rc0 hKc hPc (q0 := 0) rfl, fun U hU hW => ⟨rfl, by rw [hU]; exact hPc, va_K.moved hW.alike hKc⟩⟩ rfl rfl hl.1 rfl (lv_room (Nat.le_of_ble_eq_true rfl)) dX4_candidate_6 ⟨Nat.le_of_ble_eq_true rfl, Nat.le_of_ble_eq_true rfl⟩) (fun r_1 w_1 => ?_)
  rcases w_1 with ⟨rfl, w_1⟩ | ⟨rfl, w_1⟩
  · have w_1 : (0 ≤ p0.toInt ∧ p0.toInt < p1.toInt ∧ p1.toInt ≤ len.toInt) := w_1
    refine lv_if_eq (tgt := 27) hx hb dX4_candidate_9 (by decide) (fun c_2 => ?_) (fun c_2 => ?_)
    · exact absurd c_2 (by decide)
    · refine lv_iload_n hx hb dX4_candidate_12 rfl (lv_at hl 3 rfl) ?_
      refine lv_if_lt (tgt := 27) hx hb dX4_candidate_13 (by decide) (fun c_3 => ?_) (fun c_3 => ?_)
      · have i_3 : p2.toInt < 0 := kc_lt c_3
        have hP9 := hP.sub (ws' := [kx_4 m_ q_row q_t t_ h0 k0 w_ z_ slots old, kx_2 q_t q_row q_joined q_from q_to q_size q_lossOf q_lessBy q_value q_number nodes here, kx_0 q_row q_cell len, kx_a q_cell cyI 160 f, kx_a q_from cyI 319 ff, kx_a q_to cyI 319 ft, kx_a q_size cyI 319 fs, kx_a q_lossOf cyI 319 fo, kx_a q_lessBy cyI 319 fe, kx_a q_value cyI 1914 uv, kx_a q_number cyI 1914 un, kx_3 q_joined j_v j_n js jl je, kx_a j_v cyI 12 jv, kx_a j_n cyI 12 jn, kx_3 h0 a_v a_n vs lo le, kx_a a_v cyI 12 fv, kx_a a_n cyI 12 fn]) [0, 1, 2, 3, 4, 5, 6, 7, 8, 9, 10, 11, 12, 13, 14, 15, 16] rfl
        have hD9 := hD.sub (ws' := [kx_4 m_ q_row q_t t_ h0 k0 w_ z_ slots old, kx_2 q_t q_row q_joined q_from q_to q_size q_lossOf q_lessBy q_value q_number nodes here, kx_0 q_row q_cell len, kx_a q_cell cyI 160 f, kx_a q_from cyI 319 ff, kx_a q_to cyI 319 ft, kx_a q_size cyI 319 fs, kx_a q_lossOf cyI 319 fo, kx_a q_lessBy cyI 319 fe, kx_a q_value cyI 1914 uv, kx_a q_number cyI 1914 un, kx_3 q_joined j_v j_n js jl je, kx_a j_v cyI 12 jv, kx_a j_n cyI 12 jn, kx_3 h0 a_v a_n vs lo le, kx_a a_v cyI 12 fv, kx_a a_n cyI 12 fn]) [0, 1, 2, 3, 4, 5, 6, 7, 8, 9, 10, 11, 12, 13, 14, 15, 16] (by decide) rfl
        have hK9 := hK.sub (tys' := [(cyI, .int)]) [0] rfl
        exact vx_throw0 (names := EXC) hx hb hl0 hown (by decide +kernel) (by decide +kernel) hc_107 hz_ex hat ki_ot hth.2.1 hth.2.2 hS (hl.1.trans hml.symm) dX4_candidate_27 dX4_candidate_30 dX4_candidate_31 dX4_candidate_34 (fun x h => (htab x h).elim) (Nat.le_of_ble_eq_true rfl) (Nat.le_of_ble_eq_true rfl) (Nat.le_of_ble_eq_true rfl) (Nat.le_of_ble_eq_true rfl) hlocks (fun t ha hz hk => ⟨(old, nodes, here, ff, ft, fs, fo, fe, uv, un, js, jl, je, jv, jn, vs, lo, le, fv, fn), ⟨(by decide), l0, s0⟩, ⟨rfl, hP9.kept (fun k x hx => hk x.1 ((hP9 k x hx).lt)), va_K.moved ha hK9, hD9⟩, Nat.le_trans hS.1 hz, fun q h1 h2 => (hk q (Nat.lt_of_lt_of_le h1 hS.1)).trans (hS.2.1 q h1 h2)⟩) hS.2.2 (Nat.le_refl _) (Nat.le_refl _)
      · have i_3 : 0 ≤ p2.toInt := kc_nlt c_3
        refine lv_iload hx hb dX4_candidate_16 (lv_at hl 4 rfl) ?_
        refine lv_if_lt (tgt := 27) hx hb dX4_candidate_18 (by decide) (fun c_4 => ?_) (fun c_4 => ?_)
        · have i_4 : p3.toInt < 0 := kc_lt c_4
          have hP9 := hP.sub (ws' := [kx_4 m_ q_row q_t t_ h0 k0 w_ z_ slots old, kx_2 q_t q_row q_joined q_from q_to q_size q_lossOf q_lessBy q_value q_number nodes here, kx_0 q_row q_cell len, kx_a q_cell cyI 160 f, kx_a q_from cyI 319 ff, kx_a q_to cyI 319 ft, kx_a q_size cyI 319 fs, kx_a q_lossOf cyI 319 fo, kx_a q_lessBy cyI 319 fe, kx_a q_value cyI 1914 uv, kx_a q_number cyI 1914 un, kx_3 q_joined j_v j_n js jl je, kx_a j_v cyI 12 jv, kx_a j_n cyI 12 jn, kx_3 h0 a_v a_n vs lo le, kx_a a_v cyI 12 fv, kx_a a_n cyI 12 fn]) [0, 1, 2, 3, 4, 5, 6, 7, 8, 9, 10, 11, 12, 13, 14, 15, 16] rfl
          have hD9 := hD.sub (ws' := [kx_4 m_ q_row q_t t_ h0 k0 w_ z_ slots old, kx_2 q_t q_row q_joined q_from q_to q_size q_lossOf q_lessBy q_value q_number nodes here, kx_0 q_row q_cell len, kx_a q_cell cyI 160 f, kx_a q_from cyI 319 ff, kx_a q_to cyI 319 ft, kx_a q_size cyI 319 fs, kx_a q_lossOf cyI 319 fo, kx_a q_lessBy cyI 319 fe, kx_a q_value cyI 1914 uv, kx_a q_number cyI 1914 un, kx_3 q_joined j_v j_n js jl je, kx_a j_v cyI 12 jv, kx_a j_n cyI 12 jn, kx_3 h0 a_v a_n vs lo le, kx_a a_v cyI 12 fv, kx_a a_n cyI 12 fn]) [0, 1, 2, 3, 4, 5, 6, 7, 8, 9, 10, 11, 12, 13, 14, 15, 16] (by decide) rfl
          have hK9 := hK.sub (tys' := [(cyI, .int)]) [0] rfl
          exact vx_throw0 (names := EXC) hx hb hl0 hown (by decide +kernel) (by decide +kernel) hc_107 hz_ex hat ki_ot hth.2.1 hth.2.2 hS (hl.1.trans hml.symm) dX4_candidate_27 dX4_candidate_30 dX4_candidate_31 dX4_candidate_34 (fun x h => (htab x h).elim) (Nat.le_of_ble_eq_true rfl) (Nat.le_of_ble_eq_true rfl) (Nat.le_of_ble_eq_true rfl) (Nat.le_of_ble_eq_true rfl) hlocks (fun t ha hz hk => ⟨(old, nodes, here, ff, ft, fs, fo, fe, uv, un, js, jl, je, jv, jn, vs, lo, le, fv, fn), ⟨(by decide), l0, s0⟩, ⟨rfl, hP9.kept (fun k x hx => hk x.1 ((hP9 k x hx).lt)), va_K.moved ha hK9, hD9⟩, Nat.le_trans hS.1 hz, fun q h1 h2 => (hk q (Nat.lt_of_lt_of_le h1 hS.1)).trans (hS.2.1 q h1 h2)⟩) hS.2.2 (Nat.le_refl _) (Nat.le_refl _)
        · have i_4 : 0 ≤ p3.toInt := kc_nlt c_4
          refine lv_iload hx hb dX4_candidate_21 (lv_at hl 4 rfl) ?_
          refine lv_iconst (v := 2) hx hb dX4_candidate_23 (by decide) ?_
          refine lv_icmp_le (tgt := 35) hx hb dX4_candidate_24 (by decide) (fun c_5 => ?_) (fun c_5 => ?_)
          · have i_5 : p3.toInt ≤ 2 := kc_le c_5
            refine lv_aload_n hx hb dX4_candidate_35 rfl (lv_at hl 0 rfl) ?_
            obtain ⟨hPc, hDc, hFc, hCc⟩ := kx_preM (wc := [kx_4 m_ q_row q_t t_ h0 k0 w_ z_ slots old, kx_2 q_t q_row q_joined q_from q_to q_size q_lossOf q_lessBy q_value q_number nodes here, kx_0 q_row q_cell len, kx_a q_cell cyI 160 f, kx_a q_from cyI 319 ff, kx_a q_to cyI 319 ft, kx_a q_size cyI 319 fs, kx_a q_lossOf cyI 319 fo, kx_a q_lessBy cyI 319 fe, kx_a q_value cyI 1914 uv, kx_a q_number cyI 1914 un, kx_3 q_joined j_v j_n js jl je, kx_a j_v cyI 12 jv, kx_a j_n cyI 12 jn]) hP hD hS hA [true, true, true, true, true, true, true, true, true, true, true, true, true, true, false, false, false] rfl
            have hKc := hK
            refine va_callr (va_runV (As := []) (rest := []) ⟨hx, hb, hml, hown, hts⟩ (kx_un (c_X4_laidTree l dC dI m_ q_row q_t t_ h0 k0 w_ z_ slots old q_joined q_from q_to q_size q_lossOf q_lessBy q_value q_number nodes here q_cell cyI len f ff ft fs fo uv un fe j_v j_n js jl je jv jn s.heap.size a0 a1 s0 l0)) (cwV 0 hts gX4_candidate_X4_laidTree rfl rfl rfl (by decide +kernel) ⟨Nat.le_of_ble_eq_true rfl, Nat.le_of_ble_eq_true rfl⟩) ⟨fun a U g mk q => by obtain ⟨q0, q1, qP, qK, qD⟩ := q; exact ⟨q0, q1, qP, va_K.moved (u := U) (U := U.calling g mk a) (Vm.Alike.refl U.vm) qK, qD⟩, kx_rc4 hKc hPc (q0 := 0) rfl, fun U hU hW => ⟨rfl, by rw [hU], by rw [hU]; exact hPc, va_K.moved hW.alike hKc, hDc.weaken (fun _ _ _ _ => trivial)⟩⟩ rfl rfl hl.1 rfl (lv_room (Nat.le_of_ble_eq_true rfl)) dX4_candidate_36 ⟨Nat.le_of_ble_eq_true rfl, Nat.le_of_ble_eq_true rfl⟩) hS (fun q _ h => hFc q h) hFc (fun u ra t H1 locs ht hvm w_6 hB hz1 hk1 hS => ?_)
            obtain ⟨o_7, o_8, o_9, o_10, o_11, o_12, o_13, o_14, o_15, o_16, o_17, o_18, o_19, o_20, o_21⟩ := u
            dsimp only at w_6 hB
            obtain ⟨er, hP1, hK1, hD1⟩ := hB
            rw [ht] at hP1
            have hK1 := va_K.moved hvm.symm hK1
            obtain ⟨hP, hD⟩ := kx_joinM (w2 := [kx_4 m_ q_row q_t t_ h0 k0 w_ z_ slots o_7, kx_2 q_t q_row q_joined q_from q_to q_size q_lossOf q_lessBy q_value q_number o_8 o_9, kx_0 q_row q_cell len, kx_a q_cell cyI 160 f, kx_a q_from cyI 319 o_10, kx_a q_to cyI 319 o_11, kx_a q_size cyI 319 o_12, kx_a q_lossOf cyI 319 o_13, kx_a q_lessBy cyI 319 o_14, kx_a q_value cyI 1914 o_15, kx_a q_number cyI 1914 o_16, kx_3 q_joined j_v j_n o_17 o_18 o_19, kx_a j_v cyI 12 o_20, kx_a j_n cyI 12 o_21, kx_3 h0 a_v a_n vs lo le, kx_a a_v cyI 12 fv, kx_a a_n cyI 12 fn]) hP hD hP1 hD1 hk1 hFc [true, true, true, true, true, true, true, true, true, true, true, true, true, true, false, false, false] hCc rfl
            clear hP1 hD1 hK1 hk1 hz1 hFc hDc hPc hKc hCc
            generalize H1 = H at hP hS ⊢
            have w_6 : o_7.toInt = 0 ∧ 0 ≤ o_8.toInt ∧ o_8.toInt ≤ 319 ∧ sixes o_12 ∧ treeOk o_10 o_11 o_8.toInt len.toInt := w_6
            rw [er]
            refine lv_aload_n hx hb dX4_candidate_39 rfl (lv_at hl 0 rfl) ?_
            refine va_get (D := (dC, dI)) (ci := 4) (v := .ref h0) (C := RX4) (T := TX4) (N := 9) hx hb hts hi_4 hown hK hP 0 rfl rfl 3 (by decide) hf_35 (fun _ h9 => h9) rfl dX4_candidate_40 ?_
            refine lv_iload_n hx hb dX4_candidate_43 rfl (lv_at hl 1 rfl) ?_
            refine lv_iload_n hx hb dX4_candidate_44 rfl (lv_at hl 2 rfl) ?_
            obtain ⟨hPc, hDc, hFc, hCc⟩ := kx_preM (wc := [kx_2 q_t q_row q_joined q_from q_to q_size q_lossOf q_lessBy q_value q_number o_8 o_9, kx_a q_from cyI 319 o_10, kx_a q_to cyI 319 o_11, kx_a q_size cyI 319 o_12, kx_a q_lossOf cyI 319 o_13, kx_a q_value cyI 1914 o_15, kx_a q_number cyI 1914 o_16, kx_3 h0 a_v a_n vs lo le, kx_a a_v cyI 12 fv, kx_a a_n cyI 12 fn]) hP hD hS hA [false, true, false, false, true, true, true, true, false, true, true, false, false, false, true, true, true] rfl
            have hKc := hK
            refine va_callv (va_runV (As := [.ref h0, .int p0, .int p1]) (rest := []) ⟨hx, hb, hml, hown, hts⟩ (kx_un (c_X2_gather l dC dI q_t q_row q_joined q_from q_to q_size q_lossOf q_lessBy q_value q_number o_8 o_9 h0 a_v a_n cyI vs lo le fv fn o_10 o_11 o_12 o_13 o_15 o_16 p0 p1 H.size w_6.2.1 w_6.2.2.1 w_6.2.2.2.1)) (cwV 3 hts gX4_candidate_X2_gather rfl rfl rfl (by decide +kernel) ⟨Nat.le_of_ble_eq_true rfl, Nat.le_of_ble_eq_true rfl⟩) ⟨fun a U g mk q => by obtain ⟨q0, q1, qP, qK, qD⟩ := q; exact ⟨q0, q1, qP, va_K.moved (u := U) (U := U.calling g mk a) (Vm.Alike.refl U.vm) qK, qD⟩, kx_rc2 hKc hPc (q0 := 0) rfl, fun U hU hW => ⟨rfl, by rw [hU], by rw [hU]; exact hPc, va_K.moved hW.alike hKc, hDc.weaken (fun _ _ _ _ => trivial)⟩⟩ rfl rfl hl.1 rfl (lv_room (Nat.le_of_ble_eq_true rfl)) dX4_candidate_45 ⟨Nat.le_of_ble_eq_true rfl, Nat.le_of_ble_eq_true rfl⟩) hS (fun q _ h => hFc q h) hFc (fun u t H1 locs ht hvm w_22 hB hz1 hk1 hS => ?_)
            obtain ⟨o_23, o_24, o_25, o_26, o_27⟩ := u
            dsimp only at w_22 hB
            obtain ⟨hP1, hK1, hD1⟩ := hB
            rw [ht] at hP1
            have hK1 := va_K.moved hvm.symm hK1
            obtain ⟨hP, hD⟩ := kx_joinM (w2 := [kx_4 m_ q_row q_t t_ h0 k0 w_ z_ slots o_7, kx_2 q_t q_row q_joined q_from q_to q_size q_lossOf q_lessBy q_value q_number o_8 o_9, kx_0 q_row q_cell len, kx_a q_cell cyI 160 f, kx_a q_from cyI 319 o_10, kx_a q_to cyI 319 o_11, kx_a q_size cyI 319 o_12, kx_a q_lossOf cyI 319 o_13, kx_a q_lessBy cyI 319 o_14, kx_a q_value cyI 1914 o_15, kx_a q_number cyI 1914 o_16, kx_3 q_joined j_v j_n o_17 o_18 o_19, kx_a j_v cyI 12 o_20, kx_a j_n cyI 12 o_21, kx_3 h0 a_v a_n o_23 o_24 o_25, kx_a a_v cyI 12 o_26, kx_a a_n cyI 12 o_27]) hP hD hP1 hD1 hk1 hFc [false, true, false, false, true, true, true, true, false, true, true, false, false, false, true, true, true] hCc rfl
            clear hP1 hD1 hK1 hk1 hz1 hFc hDc hPc hKc hCc
            generalize H1 = H at hP hS ⊢
            have w_22 : 0 ≤ o_23.toInt ∧ o_23.toInt ≤ 12 := w_22
            refine lv_iload_n hx hb dX4_candidate_48 rfl (lv_at hl 3 rfl) ?_
            refine lv_aload_n hx hb dX4_candidate_49 rfl (lv_at hl 0 rfl) ?_
            refine va_get (D := (dC, dI)) (ci := 4) (v := .ref h0) (C := RX4) (T := TX4) (N := 9) hx hb hts hi_4 hown hK hP 0 rfl rfl 3 (by decide) hf_35 (fun _ h9 => h9) rfl dX4_candidate_50 ?_
            refine va_get (D := (dC, dI)) (ci := 3) (v := .int o_23) (C := RX3) (T := TX3) (N := 5) hx hb hts hi_3 hown hK hP 14 rfl rfl 2 (by decide) hf_174 (fun _ h9 => h9) rfl dX4_candidate_53 ?_
            refine lv_icmp_lt (tgt := 67) hx hb dX4_candidate_56 (by decide) (fun c_28 => ?_) (fun c_28 => ?_)
            · have i_28 : p2.toInt < o_23.toInt := kc_lt c_28
              refine lv_iload hx hb dX4_candidate_67 (lv_at hl 4 rfl) ?_
              by_cases s_29 : p3.toInt = 0
              · refine lv_lookup (tgt := 96) (off := 27) hx hb dX4_candidate_69 (by decide) (by rw [s_29]; rfl) (by decide) ?_
                refine lv_aload_n hx hb dX4_candidate_96 rfl (lv_at hl 0 rfl) ?_
                refine va_get (D := (dC, dI)) (ci := 4) (v := .ref h0) (C := RX4) (T := TX4) (N := 9) hx hb hts hi_4 hown hK hP 0 rfl rfl 3 (by decide) hf_35 (fun _ h9 => h9) rfl dX4_candidate_97 ?_
                refine va_get (D := (dC, dI)) (ci := 3) (v := .ref a_v) (C := RX3) (T := TX3) (N := 5) hx hb hts hi_3 hown hK hP 14 rfl rfl 0 (by decide) hf_133 (fun _ h9 => h9) rfl dX4_candidate_100 ?_
                refine lv_iload_n hx hb dX4_candidate_103 rfl (lv_at hl 3 rfl) ?_
                refine va_iald hx hb hK hP 15 0 rfl rfl (ki_in (om_10 i_3) (om_32 w_22.2 i_28)) dX4_candidate_104 ?_
                refine lv_topi (fun y_30 ey_30 => ?_)
                have j_30 : y_30.toInt = (o_26 p2.toNatClampNeg).toInt := congrArg Int32.toInt ey_30
                refine vx_ret ?_
                have hP9 := hP
                have hD9 := hD
                have hK9 := hK
                refine W.widen (k := 1) (n := 6) (Nat.le_of_ble_eq_true rfl) (Nat.le_of_ble_eq_true rfl) ?_
                exact W.iret (v := y_30) hx hb hr (hlocks := hlocks) (fun t ht hW => ⟨⟨y_30, (o_7, o_8, o_9, o_10, o_11, o_12, o_13, o_14, o_15, o_16, o_17, o_18, o_19, o_20, o_21, o_23, o_24, o_25, o_26, o_27), rfl, ⟨(by decide), (fun _ => ⟨(by (try dsimp only); omega), (by (try dsimp only); omega), w_6.2.2.2.2⟩), w_6.2.2.2.1⟩, by rw [ht]; exact hP9, va_K.moved hW.alike hK9, hD9⟩, hS.F ht⟩) hS.2.2 dX4_candidate_105
              by_cases s_31 : p3.toInt = 1
              · refine lv_lookup (tgt := 106) (off := 37) hx hb dX4_candidate_69 (by decide) (by rw [s_31]; rfl) (by decide) ?_
                refine lv_aload_n hx hb dX4_candidate_106 rfl (lv_at hl 0 rfl) ?_
                refine va_get (D := (dC, dI)) (ci := 4) (v := .ref h0) (C := RX4) (T := TX4) (N := 9) hx hb hts hi_4 hown hK hP 0 rfl rfl 3 (by decide) hf_35 (fun _ h9 => h9) rfl dX4_candidate_107 ?_
                refine va_get (D := (dC, dI)) (ci := 3) (v := .ref a_n) (C := RX3) (T := TX3) (N := 5) hx hb hts hi_3 hown hK hP 14 rfl rfl 1 (by decide) hf_136 (fun _ h9 => h9) rfl dX4_candidate_110 ?_
                refine lv_iload_n hx hb dX4_candidate_113 rfl (lv_at hl 3 rfl) ?_
                refine va_iald hx hb hK hP 16 0 rfl rfl (ki_in (om_10 i_3) (om_32 w_22.2 i_28)) dX4_candidate_114 ?_
                refine lv_topi (fun y_32 ey_32 => ?_)
                have j_32 : y_32.toInt = (o_27 p2.toNatClampNeg).toInt := congrArg Int32.toInt ey_32
                refine vx_ret ?_
                have hP9 := hP
                have hD9 := hD
                have hK9 := hK
                refine W.widen (k := 1) (n := 6) (Nat.le_of_ble_eq_true rfl) (Nat.le_of_ble_eq_true rfl) ?_
                exact W.iret (v := y_32) hx hb hr (hlocks := hlocks) (fun t ht hW => ⟨⟨y_32, (o_7, o_8, o_9, o_10, o_11, o_12, o_13, o_14, o_15, o_16, o_17, o_18, o_19, o_20, o_21, o_23, o_24, o_25, o_26, o_27), rfl, ⟨(by decide), (fun _ => ⟨(by (try dsimp only); omega), (by (try dsimp only); omega), w_6.2.2.2.2⟩), w_6.2.2.2.1⟩, by rw [ht]; exact hP9, va_K.moved hW.alike hK9, hD9⟩, hS.F ht⟩) hS.2.2 dX4_candidate_115
              have s_33 : p3.toInt = 2 := by omega
              refine lv_lookup (tgt := 116) (off := 47) hx hb dX4_candidate_69 (by decide) (by rw [s_33]; rfl) (by decide) ?_
              refine lv_aload_n hx hb dX4_candidate_116 rfl (lv_at hl 0 rfl) ?_
              refine va_get (D := (dC, dI)) (ci := 4) (v := .ref q_row) (C := RX4) (T := TX4) (N := 9) hx hb hts hi_4 hown hK hP 0 rfl rfl 0 (by decide) hf_12 (fun _ h9 => h9) rfl dX4_candidate_117 ?_
              refine lv_aload_n hx hb dX4_candidate_120 rfl (lv_at hl 0 rfl) ?_
              refine va_get (D := (dC, dI)) (ci := 4) (v := .ref h0) (C := RX4) (T := TX4) (N := 9) hx hb hts hi_4 hown hK hP 0 rfl rfl 3 (by decide) hf_35 (fun _ h9 => h9) rfl dX4_candidate_121 ?_
              refine va_get (D := (dC, dI)) (ci := 3) (v := .ref a_v) (C := RX3) (T := TX3) (N := 5) hx hb hts hi_3 hown hK hP 14 rfl rfl 0 (by decide) hf_133 (fun _ h9 => h9) rfl dX4_candidate_124 ?_
              refine lv_iload_n hx hb dX4_candidate_127 rfl (lv_at hl 3 rfl) ?_
              refine va_iald hx hb hK hP 15 0 rfl rfl (ki_in (om_10 i_3) (om_32 w_22.2 i_28)) dX4_candidate_128 ?_
              refine lv_topi (fun y_34 ey_34 => ?_)
              have j_34 : y_34.toInt = (o_26 p2.toNatClampNeg).toInt := congrArg Int32.toInt ey_34
              refine lv_iload_n hx hb dX4_candidate_129 rfl (lv_at hl 1 rfl) ?_
              refine lv_iload_n hx hb dX4_candidate_130 rfl (lv_at hl 2 rfl) ?_
              have hPc := hP.sub (ws' := [kx_0 q_row q_cell len, kx_a q_cell cyI 160 f]) [2, 3] rfl
              have hKc := hK
              refine vp_callSi (W.runV (As := [.int y_34, .int p0, .int p1]) (rest := []) ⟨hx, hb, hml, hown, hts⟩ (c_X0_oftenIn l dC dI q_row q_cell cyI len f y_34 p0 p1 (om_10 w_1.1) (om_167 a1 w_1.2.2)) (cwV 3 hts gX4_candidate_X0_oftenIn rfl rfl rfl (by decide +kernel) ⟨Nat.le_of_ble_eq_true rfl, Nat.le_of_ble_eq_true rfl⟩) ⟨fun a U g mk q => by obtain ⟨q0, qP, qK⟩ := q; exact ⟨q0, qP, va_K.moved (u := U) (U := U.calling g mk a) (Vm.Alike.refl U.vm) qK⟩, kx_rc0 hKc hPc (q0 := 0) rfl, fun U hU hW => ⟨rfl, by rw [hU]; exact hPc, va_K.moved hW.alike hKc⟩⟩ rfl rfl hl.1 rfl (lv_room (Nat.le_of_ble_eq_true rfl)) dX4_candidate_131 ⟨Nat.le_of_ble_eq_true rfl, Nat.le_of_ble_eq_true rfl⟩) (fun r_35 w_35 => ?_)
              have w_35 : r_35.toInt = (cnt f y_34 p0.toNatClampNeg (p1.toInt - p0.toInt).toNat : Int) := w_35
              refine vx_ret ?_
              have hP9 := hP
              have hD9 := hD
              have hK9 := hK
              refine W.widen (k := 1) (n := 6) (Nat.le_of_ble_eq_true rfl) (Nat.le_of_ble_eq_true rfl) ?_
              exact W.iret (v := r_35) hx hb hr (hlocks := hlocks) (fun t ht hW => ⟨⟨r_35, (o_7, o_8, o_9, o_10, o_11, o_12, o_13, o_14, o_15, o_16, o_17, o_18, o_19, o_20, o_21, o_23, o_24, o_25, o_26, o_27), rfl, ⟨(by decide), (fun _ => ⟨(by (try dsimp only); omega), (by (try dsimp only); omega), w_6.2.2.2.2⟩), w_6.2.2.2.1⟩, by rw [ht]; exact hP9, va_K.moved hW.alike hK9, hD9⟩, hS.F ht⟩) hS.2.2 dX4_candidate_134
            · have i_28 : o_23.toInt ≤ p2.toInt := kc_nlt c_28
              have hP9 := hP.sub (ws' := [kx_4 m_ q_row q_t t_ h0 k0 w_ z_ slots o_7, kx_2 q_t q_row q_joined q_from q_to q_size q_lossOf q_lessBy q_value q_number o_8 o_9, kx_0 q_row q_cell len, kx_a q_cell cyI 160 f, kx_a q_from cyI 319 o_10, kx_a q_to cyI 319 o_11, kx_a q_size cyI 319 o_12, kx_a q_lossOf cyI 319 o_13, kx_a q_lessBy cyI 319 o_14, kx_a q_value cyI 1914 o_15, kx_a q_number cyI 1914 o_16, kx_3 q_joined j_v j_n o_17 o_18 o_19, kx_a j_v cyI 12 o_20, kx_a j_n cyI 12 o_21, kx_3 h0 a_v a_n o_23 o_24 o_25, kx_a a_v cyI 12 o_26, kx_a a_n cyI 12 o_27]) [0, 1, 2, 3, 4, 5, 6, 7, 8, 9, 10, 11, 12, 13, 14, 15, 16] rfl
              have hD9 := hD.sub (ws' := [kx_4 m_ q_row q_t t_ h0 k0 w_ z_ slots o_7, kx_2 q_t q_row q_joined q_from q_to q_size q_lossOf q_lessBy q_value q_number o_8 o_9, kx_0 q_row q_cell len, kx_a q_cell cyI 160 f, kx_a q_from cyI 319 o_10, kx_a q_to cyI 319 o_11, kx_a q_size cyI 319 o_12, kx_a q_lossOf cyI 319 o_13, kx_a q_lessBy cyI 319 o_14, kx_a q_value cyI 1914 o_15, kx_a q_number cyI 1914 o_16, kx_3 q_joined j_v j_n o_17 o_18 o_19, kx_a j_v cyI 12 o_20, kx_a j_n cyI 12 o_21, kx_3 h0 a_v a_n o_23 o_24 o_25, kx_a a_v cyI 12 o_26, kx_a a_n cyI 12 o_27]) [0, 1, 2, 3, 4, 5, 6, 7, 8, 9, 10, 11, 12, 13, 14, 15, 16] (by decide) rfl
              have hK9 := hK.sub (tys' := [(cyI, .int)]) [0] rfl
              exact vx_throw0 (names := EXC) hx hb hl0 hown (by decide +kernel) (by decide +kernel) hc_107 hz_ex hat ki_ot hth.2.1 hth.2.2 hS (hl.1.trans hml.symm) dX4_candidate_59 dX4_candidate_62 dX4_candidate_63 dX4_candidate_66 (fun x h => (htab x h).elim) (Nat.le_of_ble_eq_true rfl) (Nat.le_of_ble_eq_true rfl) (Nat.le_of_ble_eq_true rfl) (Nat.le_of_ble_eq_true rfl) hlocks (fun t ha hz hk => ⟨(o_7, o_8, o_9, o_10, o_11, o_12, o_13, o_14, o_15, o_16, o_17, o_18, o_19, o_20, o_21, o_23, o_24, o_25, o_26, o_27), ⟨(by decide), (fun _ => ⟨(by (try dsimp only); omega), (by (try dsimp only); omega), w_6.2.2.2.2⟩), w_6.2.2.2.1⟩, ⟨rfl, hP9.kept (fun k x hx => hk x.1 ((hP9 k x hx).lt)), va_K.moved ha hK9, hD9⟩, Nat.le_trans hS.1 hz, fun q h1 h2 => (hk q (Nat.lt_of_lt_of_le h1 hS.1)).trans (hS.2.1 q h1 h2)⟩) hS.2.2 (Nat.le_refl _) (Nat.le_refl _)
          · have i_5 : 2 < p3.toInt := kc_nle c_5
            have hP9 := hP.sub (ws' := [kx_4 m_ q_row q_t t_ h0 k0 w_ z_ slots old, kx_2 q_t q_row q_joined q_from q_to q_size q_lossOf q_lessBy q_value q_number nodes here, kx_0 q_row q_cell len, kx_a q_cell cyI 160 f, kx_a q_from cyI 319 ff, kx_a q_to cyI 319 ft, kx_a q_size cyI 319 fs, kx_a q_lossOf cyI 319 fo, kx_a q_lessBy cyI 319 fe, kx_a q_value cyI 1914 uv, kx_a q_number cyI 1914 un, kx_3 q_joined j_v j_n js jl je, kx_a j_v cyI 12 jv, kx_a j_n cyI 12 jn, kx_3 h0 a_v a_n vs lo le, kx_a a_v cyI 12 fv, kx_a a_n cyI 12 fn]) [0, 1, 2, 3, 4, 5, 6, 7, 8, 9, 10, 11, 12, 13, 14, 15, 16] rfl
            have hD9 := hD.sub (ws' := [kx_4 m_ q_row q_t t_ h0 k0 w_ z_ slots old, kx_2 q_t q_row q_joined q_from q_to q_size q_lossOf q_lessBy q_value q_number nodes here, kx_0 q_row q_cell len, kx_a q_cell cyI 160 f, kx_a q_from cyI 319 ff, kx_a q_to cyI 319 ft, kx_a q_size cyI 319 fs, kx_a q_lossOf cyI 319 fo, kx_a q_lessBy cyI 319 fe, kx_a q_value cyI 1914 uv, kx_a q_number cyI 1914 un, kx_3 q_joined j_v j_n js jl je, kx_a j_v cyI 12 jv, kx_a j_n cyI 12 jn, kx_3 h0 a_v a_n vs lo le, kx_a a_v cyI 12 fv, kx_a a_n cyI 12 fn]) [0, 1, 2, 3, 4, 5, 6, 7, 8, 9, 10, 11, 12, 13, 14, 15, 16] (by decide) rfl
            have hK9 := hK.sub (tys' := [(cyI, .int)]) [0] rfl
            exact vx_throw0 (names := EXC) hx hb hl0 hown (by decide +kernel) (by decide +kernel) hc_107 hz_ex hat ki_ot hth.2.1 hth.2.2 hS (hl.1.trans hml.symm) dX4_candidate_27 dX4_candidate_30 dX4_candidate_31 dX4_candidate_34 (fun x h => (htab x h).elim) (Nat.le_of_ble_eq_true rfl) (Nat.le_of_ble_eq_true rfl) (Nat.le_of_ble_eq_true rfl) (Nat.le_of_ble_eq_true rfl) hlocks (fun t ha hz hk => ⟨(old, nodes, here, ff, ft, fs, fo, fe, uv, un, js, jl, je, jv, jn, vs, lo, le, fv, fn), ⟨(by decide), l0, s0⟩, ⟨rfl, hP9.kept (fun k x hx => hk x.1 ((hP9 k x hx).lt)), va_K.moved ha hK9, hD9⟩, Nat.le_trans hS.1 hz, fun q h1 h2 => (hk q (Nat.lt_of_lt_of_le h1 hS.1)).trans (hS.2.1 q h1 h2)⟩) hS.2.2 (Nat.le_refl _) (Nat.le_refl _)
  · have w_1 : (p0.toInt < 0 ∨ p1.toInt ≤ p0.toInt ∨ len.toInt < p1.toInt) := w_1
    refine lv_if_eq (tgt := 27) hx hb dX4_candidate_9 (by decide) (fun c_36 => ?_) (fun c_36 => ?_)
    · have hP9 := hP.sub (ws' := [kx_4 m_ q_row q_t t_ h0 k0 w_ z_ slots old, kx_2 q_t q_row q_joined q_from q_to q_size q_lossOf q_lessBy q_value q_number nodes here, kx_0 q_row q_cell len, kx_a q_cell cyI 160 f, kx_a q_from cyI 319 ff, kx_a q_to cyI 319 ft, kx_a q_size cyI 319 fs, kx_a q_lossOf cyI 319 fo, kx_a q_lessBy cyI 319 fe, kx_a q_value cyI 1914 uv, kx_a q_number cyI 1914 un, kx_3 q_joined j_v j_n js jl je, kx_a j_v cyI 12 jv, kx_a j_n cyI 12 jn, kx_3 h0 a_v a_n vs lo le, kx_a a_v cyI 12 fv, kx_a a_n cyI 12 fn]) [0, 1, 2, 3, 4, 5, 6, 7, 8, 9, 10, 11, 12, 13, 14, 15, 16] rfl
      have hD9 := hD.sub (ws' := [kx_4 m_ q_row q_t t_ h0 k0 w_ z_ slots old, kx_2 q_t q_row q_joined q_from q_to q_size q_lossOf q_lessBy q_value q_number nodes here, kx_0 q_row q_cell len, kx_a q_cell cyI 160 f, kx_a q_from cyI 319 ff, kx_a q_to cyI 319 ft, kx_a q_size cyI 319 fs, kx_a q_lossOf cyI 319 fo, kx_a q_lessBy cyI 319 fe, kx_a q_value cyI 1914 uv, kx_a q_number cyI 1914 un, kx_3 q_joined j_v j_n js jl je, kx_a j_v cyI 12 jv, kx_a j_n cyI 12 jn, kx_3 h0 a_v a_n vs lo le, kx_a a_v cyI 12 fv, kx_a a_n cyI 12 fn]) [0, 1, 2, 3, 4, 5, 6, 7, 8, 9, 10, 11, 12, 13, 14, 15, 16] (by decide) rfl
      have hK9 := hK.sub (tys' := [(cyI, .int)]) [0] rfl
      exact vx_throw0 (names := EXC) hx hb hl0 hown (by decide +kernel) (by decide +kernel) hc_107 hz_ex hat ki_ot hth.2.1 hth.2.2 hS (hl.1.trans hml.symm) dX4_candidate_27 dX4_candidate_30 dX4_candidate_31 dX4_candidate_34 (fun x h => (htab x h).elim) (Nat.le_of_ble_eq_true rfl) (Nat.le_of_ble_eq_true rfl) (Nat.le_of_ble_eq_true rfl) (Nat.le_of_ble_eq_true rfl) hlocks (fun t ha hz hk => ⟨(old, nodes, here, ff, ft, fs, fo, fe, uv, un, js, jl, je, jv, jn, vs, lo, le, fv, fn), ⟨(by decide), l0, s0⟩, ⟨rfl, hP9.kept (fun k x hx => hk x.1 ((hP9 k x hx).lt)), va_K.moved ha hK9, hD9⟩, Nat.le_trans hS.1 hz, fun q h1 h2 => (hk q (Nat.lt_of_lt_of_le h1 hS.1)).trans (hS.2.1 q h1 h2)⟩) hS.2.2 (Nat.le_refl _) (Nat.le_refl _)
    · exact absurd c_36 (by decide)

set_option maxHeartbeats 4000000 in
set_option maxRecDepth 100000 in
theorem c_X4_heavyAt (l : Launch) (hl0 : l.stackTraces = false) (dC : Nat → ClassId) (dI : Nat → Nat → Nat) (m_ : Nat) (q_row : Nat) (q_t : Nat) (t_ : Nat) (h0 : Nat) (k0 : Nat) (w_ : Nat) (z_ : Nat) (slots : Int32) (old : Int32) (q_joined : Nat) (q_from : Nat) (q_to : Nat) (q_size : Nat) (q_lossOf : Nat) (q_lessBy : Nat) (q_value : Nat) (q_number : Nat) (nodes : Int32) (here : Int32) (q_cell : Nat) (cyI : ClassId) (len : Int32) (f : Nat → Int32) (ff : Nat → Int32) (ft : Nat → Int32) (fs : Nat → Int32) (fo : Nat → Int32) (uv : Nat → Int32) (un : Nat → Int32) (fe : Nat → Int32) (j_v : Nat) (j_n : Nat) (js : Int32) (jl : Int32) (je : Int32) (jv : Nat → Int32) (jn : Nat → Int32) (a_v : Nat) (a_n : Nat) (vs : Int32) (lo : Int32) (le : Int32) (fv : Nat → Int32) (fn : Nat → Int32) (p0 : Int32) (p1 : Int32) (p2 : Int32) (p3 : Int32) (p4 : Int32) (p5 : Int32) (sz : Nat) (a0 : 0 ≤ len.toInt) (a1 : len.toInt ≤ 160) (s0 : sixes fs) (l0 : laidP old ff ft nodes len) : vx_Met l yX4_heavyAt wsX4_heavyAt ({ frames := 8, cells := 1, slots := 6, locals := 360 }) (va_Pc [.ref m_, .int p0, .int p1, .int p2, .int p3, .int p4, .int p5] (fun U => U.heap.size = sz ∧ va_P (dC, dI) vwCl [kx_4 m_ q_row q_t t_ h0 k0 w_ z_ slots old, kx_2 q_t q_row q_joined q_from q_to q_size q_lossOf q_lessBy q_value q_number nodes here, kx_0 q_row q_cell len, kx_a q_cell cyI 160 f, kx_a q_from cyI 319 ff, kx_a q_to cyI 319 ft, kx_a q_size cyI 319 fs, kx_a q_lossOf cyI 319 fo, kx_a q_lessBy cyI 319 fe, kx_a q_value cyI 1914 uv, kx_a q_number cyI 1914 un, kx_3 q_joined j_v j_n js jl je, kx_a j_v cyI 12 jv, kx_a j_n cyI 12 jn, kx_3 h0 a_v a_n vs lo le, kx_a a_v cyI 12 fv, kx_a a_n cyI 12 fn] U.heap ∧ va_K (dC, dI) vwCl [(cyI, .int)] U ∧ va_D (fun _ => True) [kx_4 m_ q_row q_t t_ h0 k0 w_ z_ slots old, kx_2 q_t q_row q_joined q_from q_to q_size q_lossOf q_lessBy q_value q_number nodes here, kx_0 q_row q_cell len, kx_a q_cell cyI 160 f, kx_a q_from cyI 319 ff, kx_a q_to cyI 319 ft, kx_a q_size cyI 319 fs, kx_a q_lossOf cyI 319 fo, kx_a q_lessBy cyI 319 fe, kx_a q_value cyI 1914 uv, kx_a q_number cyI 1914 un, kx_3 q_joined j_v j_n js jl je, kx_a j_v cyI 12 jv, kx_a j_n cyI 12 jn, kx_3 h0 a_v a_n vs lo le, kx_a a_v cyI 12 fv, kx_a a_n cyI 12 fn] ∧ va_Nw (.methodLinkNest RX3 42 yX4_isHeavy RX4) U ∧ ki_ThA (va_A [kx_4 m_ q_row q_t t_ h0 k0 w_ z_ slots old, kx_2 q_t q_row q_joined q_from q_to q_size q_lossOf q_lessBy q_value q_number nodes here, kx_0 q_row q_cell len, kx_a q_cell cyI 160 f, kx_a q_from cyI 319 ff, kx_a q_to cyI 319 ft, kx_a q_size cyI 319 fs, kx_a q_lossOf cyI 319 fo, kx_a q_lessBy cyI 319 fe, kx_a q_value cyI 1914 uv, kx_a q_number cyI 1914 un, kx_3 q_joined j_v j_n js jl je, kx_a j_v cyI 12 jv, kx_a j_n cyI 12 jn, kx_3 h0 a_v a_n vs lo le, kx_a a_v cyI 12 fv, kx_a a_n cyI 12 fn] sz) U)) (va_Qi (fun (r : Int32) (u : Int32 × Int32 × Int32 × (Nat → Int32) × (Nat → Int32) × (Nat → Int32) × (Nat → Int32) × (Nat → Int32) × (Nat → Int32) × (Nat → Int32) × Int32 × Int32 × Int32 × (Nat → Int32) × (Nat → Int32) × Int32 × Int32 × Int32 × (Nat → Int32) × (Nat → Int32)) => (0 : Int) ≤ 1 ∧ laidP u.1 u.2.2.2.1 u.2.2.2.2.1 u.2.1 len ∧ sixes u.2.2.2.2.2.1) (fun (u : Int32 × Int32 × Int32 × (Nat → Int32) × (Nat → Int32) × (Nat → Int32) × (Nat → Int32) × (Nat → Int32) × (Nat → Int32) × (Nat → Int32) × Int32 × Int32 × Int32 × (Nat → Int32) × (Nat → Int32) × Int32 × Int32 × Int32 × (Nat → Int32) × (Nat → Int32)) (t : State) => va_P (dC, dI) vwCl [kx_4 m_ q_row q_t t_ h0 k0 w_ z_ slots u.1, kx_2 q_t q_row q_joined q_from q_to q_size q_lossOf q_lessBy q_value q_number u.2.1 u.2.2.1, kx_0 q_row q_cell len, kx_a q_cell cyI 160 f, kx_a q_from cyI 319 u.2.2.2.1, kx_a q_to cyI 319 u.2.2.2.2.1, kx_a q_size cyI 319 u.2.2.2.2.2.1, kx_a q_lossOf cyI 319 u.2.2.2.2.2.2.1, kx_a q_lessBy cyI 319 u.2.2.2.2.2.2.2.1, kx_a q_value cyI 1914 u.2.2.2.2.2.2.2.2.1, kx_a q_number cyI 1914 u.2.2.2.2.2.2.2.2.2.1, kx_3 q_joined j_v j_n u.2.2.2.2.2.2.2.2.2.2.1 u.2.2.2.2.2.2.2.2.2.2.2.1 u.2.2.2.2.2.2.2.2.2.2.2.2.1, kx_a j_v cyI 12 u.2.2.2.2.2.2.2.2.2.2.2.2.2.1, kx_a j_n cyI 12 u.2.2.2.2.2.2.2.2.2.2.2.2.2.2.1, kx_3 h0 a_v a_n u.2.2.2.2.2.2.2.2.2.2.2.2.2.2.2.1 u.2.2.2.2.2.2.2.2.2.2.2.2.2.2.2.2.1 u.2.2.2.2.2.2.2.2.2.2.2.2.2.2.2.2.2.1, kx_a a_v cyI 12 u.2.2.2.2.2.2.2.2.2.2.2.2.2.2.2.2.2.2.1, kx_a a_n cyI 12 u.2.2.2.2.2.2.2.2.2.2.2.2.2.2.2.2.2.2.2] t.heap ∧ va_K (dC, dI) vwCl [(cyI, .int)] t ∧ va_D (va_A [kx_4 m_ q_row q_t t_ h0 k0 w_ z_ slots old, kx_2 q_t q_row q_joined q_from q_to q_size q_lossOf q_lessBy q_value q_number nodes here, kx_0 q_row q_cell len, kx_a q_cell cyI 160 f, kx_a q_from cyI 319 ff, kx_a q_to cyI 319 ft, kx_a q_size cyI 319 fs, kx_a q_lossOf cyI 319 fo, kx_a q_lessBy cyI 319 fe, kx_a q_value cyI 1914 uv, kx_a q_number cyI 1914 un, kx_3 q_joined j_v j_n js jl je, kx_a j_v cyI 12 jv, kx_a j_n cyI 12 jn, kx_3 h0 a_v a_n vs lo le, kx_a a_v cyI 12 fv, kx_a a_n cyI 12 fn] sz) [kx_4 m_ q_row q_t t_ h0 k0 w_ z_ slots u.1, kx_2 q_t q_row q_joined q_from q_to q_size q_lossOf q_lessBy q_value q_number u.2.1 u.2.2.1, kx_0 q_row q_cell len, kx_a q_cell cyI 160 f, kx_a q_from cyI 319 u.2.2.2.1, kx_a q_to cyI 319 u.2.2.2.2.1, kx_a q_size cyI 319 u.2.2.2.2.2.1, kx_a q_lossOf cyI 319 u.2.2.2.2.2.2.1, kx_a q_lessBy cyI 319 u.2.2.2.2.2.2.2.1, kx_a q_value cyI 1914 u.2.2.2.2.2.2.2.2.1, kx_a q_number cyI 1914 u.2.2.2.2.2.2.2.2.2.1, kx_3 q_joined j_v j_n u.2.2.2.2.2.2.2.2.2.2.1 u.2.2.2.2.2.2.2.2.2.2.2.1 u.2.2.2.2.2.2.2.2.2.2.2.2.1, kx_a j_v cyI 12 u.2.2.2.2.2.2.2.2.2.2.2.2.2.1, kx_a j_n cyI 12 u.2.2.2.2.2.2.2.2.2.2.2.2.2.2.1, kx_3 h0 a_v a_n u.2.2.2.2.2.2.2.2.2.2.2.2.2.2.2.1 u.2.2.2.2.2.2.2.2.2.2.2.2.2.2.2.2.1 u.2.2.2.2.2.2.2.2.2.2.2.2.2.2.2.2.2.1, kx_a a_v cyI 12 u.2.2.2.2.2.2.2.2.2.2.2.2.2.2.2.2.2.2.1, kx_a a_n cyI 12 u.2.2.2.2.2.2.2.2.2.2.2.2.2.2.2.2.2.2.2]) (va_A [kx_4 m_ q_row q_t t_ h0 k0 w_ z_ slots old, kx_2 q_t q_row q_joined q_from q_to q_size q_lossOf q_lessBy q_value q_number nodes here, kx_0 q_row q_cell len, kx_a q_cell cyI 160 f, kx_a q_from cyI 319 ff, kx_a q_to cyI 319 ft, kx_a q_size cyI 319 fs, kx_a q_lossOf cyI 319 fo, kx_a q_lessBy cyI 319 fe, kx_a q_value cyI 1914 uv, kx_a q_number cyI 1914 un, kx_3 q_joined j_v j_n js jl je, kx_a j_v cyI 12 jv, kx_a j_n cyI 12 jn, kx_3 h0 a_v a_n vs lo le, kx_a a_v cyI 12 fv, kx_a a_n cyI 12 fn] sz)) (vx_X (fun u : Int32 × Int32 × Int32 × (Nat → Int32) × (Nat → Int32) × (Nat → Int32) × (Nat → Int32) × (Nat → Int32) × (Nat → Int32) × (Nat → Int32) × Int32 × Int32 × Int32 × (Nat → Int32) × (Nat → Int32) × Int32 × Int32 × Int32 × (Nat → Int32) × (Nat → Int32) => (0 : Int) ≤ 1 ∧ laidP u.1 u.2.2.2.1 u.2.2.2.2.1 u.2.1 len ∧ sixes u.2.2.2.2.2.1) (fun (E : String) (u : Int32 × Int32 × Int32 × (Nat → Int32) × (Nat → Int32) × (Nat → Int32) × (Nat → Int32) × (Nat → Int32) × (Nat → Int32) × (Nat → Int32) × Int32 × Int32 × Int32 × (Nat → Int32) × (Nat → Int32) × Int32 × Int32 × Int32 × (Nat → Int32) × (Nat → Int32)) (t : State) => E = EXN ∧ va_P (dC, dI) vwCl [kx_4 m_ q_row q_t t_ h0 k0 w_ z_ slots u.1, kx_2 q_t q_row q_joined q_from q_to q_size q_lossOf q_lessBy q_value q_number u.2.1 u.2.2.1, kx_0 q_row q_cell len, kx_a q_cell cyI 160 f, kx_a q_from cyI 319 u.2.2.2.1, kx_a q_to cyI 319 u.2.2.2.2.1, kx_a q_size cyI 319 u.2.2.2.2.2.1, kx_a q_lossOf cyI 319 u.2.2.2.2.2.2.1, kx_a q_lessBy cyI 319 u.2.2.2.2.2.2.2.1, kx_a q_value cyI 1914 u.2.2.2.2.2.2.2.2.1, kx_a q_number cyI 1914 u.2.2.2.2.2.2.2.2.2.1, kx_3 q_joined j_v j_n u.2.2.2.2.2.2.2.2.2.2.1 u.2.2.2.2.2.2.2.2.2.2.2.1 u.2.2.2.2.2.2.2.2.2.2.2.2.1, kx_a j_v cyI 12 u.2.2.2.2.2.2.2.2.2.2.2.2.2.1, kx_a j_n cyI 12 u.2.2.2.2.2.2.2.2.2.2.2.2.2.2.1, kx_3 h0 a_v a_n u.2.2.2.2.2.2.2.2.2.2.2.2.2.2.2.1 u.2.2.2.2.2.2.2.2.2.2.2.2.2.2.2.2.1 u.2.2.2.2.2.2.2.2.2.2.2.2.2.2.2.2.2.1, kx_a a_v cyI 12 u.2.2.2.2.2.2.2.2.2.2.2.2.2.2.2.2.2.2.1, kx_a a_n cyI 12 u.2.2.2.2.2.2.2.2.2.2.2.2.2.2.2.2.2.2.2] t.heap ∧ va_K (dC, dI) vwCl [(cyI, .int)] t ∧ va_D (va_A [kx_4 m_ q_row q_t t_ h0 k0 w_ z_ slots old, kx_2 q_t q_row q_joined q_from q_to q_size q_lossOf q_lessBy q_value q_number nodes here, kx_0 q_row q_cell len, kx_a q_cell cyI 160 f, kx_a q_from cyI 319 ff, kx_a q_to cyI 319 ft, kx_a q_size cyI 319 fs, kx_a q_lossOf cyI 319 fo, kx_a q_lessBy cyI 319 fe, kx_a q_value cyI 1914 uv, kx_a q_number cyI 1914 un, kx_3 q_joined j_v j_n js jl je, kx_a j_v cyI 12 jv, kx_a j_n cyI 12 jn, kx_3 h0 a_v a_n vs lo le, kx_a a_v cyI 12 fv, kx_a a_n cyI 12 fn] sz) [kx_4 m_ q_row q_t t_ h0 k0 w_ z_ slots u.1, kx_2 q_t q_row q_joined q_from q_to q_size q_lossOf q_lessBy q_value q_number u.2.1 u.2.2.1, kx_0 q_row q_cell len, kx_a q_cell cyI 160 f, kx_a q_from cyI 319 u.2.2.2.1, kx_a q_to cyI 319 u.2.2.2.2.1, kx_a q_size cyI 319 u.2.2.2.2.2.1, kx_a q_lossOf cyI 319 u.2.2.2.2.2.2.1, kx_a q_lessBy cyI 319 u.2.2.2.2.2.2.2.1, kx_a q_value cyI 1914 u.2.2.2.2.2.2.2.2.1, kx_a q_number cyI 1914 u.2.2.2.2.2.2.2.2.2.1, kx_3 q_joined j_v j_n u.2.2.2.2.2.2.2.2.2.2.1 u.2.2.2.2.2.2.2.2.2.2.2.1 u.2.2.2.2.2.2.2.2.2.2.2.2.1, kx_a j_v cyI 12 u.2.2.2.2.2.2.2.2.2.2.2.2.2.1, kx_a j_n cyI 12 u.2.2.2.2.2.2.2.2.2.2.2.2.2.2.1, kx_3 h0 a_v a_n u.2.2.2.2.2.2.2.2.2.2.2.2.2.2.2.1 u.2.2.2.2.2.2.2.2.2.2.2.2.2.2.2.2.1 u.2.2.2.2.2.2.2.2.2.2.2.2.2.2.2.2.2.1, kx_a a_v cyI 12 u.2.2.2.2.2.2.2.2.2.2.2.2.2.2.2.2.2.2.1, kx_a a_n cyI 12 u.2.2.2.2.2.2.2.2.2.2.2.2.2.2.2.2.2.2.2]) (va_A [kx_4 m_ q_row q_t t_ h0 k0 w_ z_ slots old, kx_2 q_t q_row q_joined q_from q_to q_size q_lossOf q_lessBy q_value q_number nodes here, kx_0 q_row q_cell len, kx_a q_cell cyI 160 f, kx_a q_from cyI 319 ff, kx_a q_to cyI 319 ft, kx_a q_size cyI 319 fs, kx_a q_lossOf cyI 319 fo, kx_a q_lessBy cyI 319 fe, kx_a q_value cyI 1914 uv, kx_a q_number cyI 1914 un, kx_3 q_joined j_v j_n js jl je, kx_a j_v cyI 12 jv, kx_a j_n cyI 12 jn, kx_3 h0 a_v a_n vs lo le, kx_a a_v cyI 12 fv, kx_a a_n cyI 12 fn] sz)) 1 6 (va_A [kx_4 m_ q_row q_t t_ h0 k0 w_ z_ slots old, kx_2 q_t q_row q_joined q_from q_to q_size q_lossOf q_lessBy q_value q_number nodes here, kx_0 q_row q_cell len, kx_a q_cell cyI 160 f, kx_a q_from cyI 319 ff, kx_a q_to cyI 319 ft, kx_a q_size cyI 319 fs, kx_a q_lossOf cyI 319 fo, kx_a q_lessBy cyI 319 fe, kx_a q_value cyI 1914 uv, kx_a q_number cyI 1914 un, kx_3 q_joined j_v j_n js jl je, kx_a j_v cyI 12 jv, kx_a j_n cyI 12 jn, kx_3 h0 a_v a_n vs lo le, kx_a a_v cyI 12 fv, kx_a a_n cyI 12 fn] sz) := by
  refine vx_ofW (cc := cX4_heavyAt) (maxL := 7) (ret := (some .int)) (by decide) rfl ?_
  intro p e s m args below meth c s₁ B hml htab hv
  obtain ⟨rfl, hsz, hP, hK, hD0, hN0, hth⟩ := hv
  have hx := B.exec
  have hb := B.bytes
  have hr := B.returns
  have hts := atoms_spec (ws := wsX4_heavyAt) B.pre
  have hown : s.vm.findClass RX4 = some m.cls := findClass_of_methodNamed B.named
  have hlocks := B.notSynchronized
  have hat : ∀ w ∈ vx_at0 RX4 109 EXN EXC, w.before _ s = true := vx_hat (B := EXD) (fun w h => hts w (List.mem_cons_of_mem _ (List.mem_append_right _ h))) ki_bad (ki_ex hth)
  subst hsz
  have hD := hD0.self (sz := s.heap.size)
  generalize hAe : va_A [kx_4 m_ q_row q_t t_ h0 k0 w_ z_ slots old, kx_2 q_t q_row q_joined q_from q_to q_size q_lossOf q_lessBy q_value q_number nodes here, kx_0 q_row q_cell len, kx_a q_cell cyI 160 f, kx_a q_from cyI 319 ff, kx_a q_to cyI 319 ft, kx_a q_size cyI 319 fs, kx_a q_lossOf cyI 319 fo, kx_a q_lessBy cyI 319 fe, kx_a q_value cyI 1914 uv, kx_a q_number cyI 1914 un, kx_3 q_joined j_v j_n js jl je, kx_a j_v cyI 12 jv, kx_a j_n cyI 12 jn, kx_3 h0 a_v a_n vs lo le, kx_a a_v cyI 12 fv, kx_a a_n cyI 12 fn] s.heap.size = A at hD hth ⊢
  have hA : ∀ q : Nat, s.heap.size ≤ q → A q := fun q h => by rw [← hAe]; exact Or.inr h
  have hS : va_S A s.heap s.heap [] := va_S.rf
  have hP : va_P (dC, dI) vwCl [kx_4 m_ q_row q_t t_ h0 k0 w_ z_ slots old, kx_2 q_t q_row q_joined q_from q_to q_size q_lossOf q_lessBy q_value q_number nodes here, kx_0 q_row q_cell len, kx_a q_cell cyI 160 f, kx_a q_from cyI 319 ff, kx_a q_to cyI 319 ft, kx_a q_size cyI 319 fs, kx_a q_lossOf cyI 319 fo, kx_a q_lessBy cyI 319 fe, kx_a q_value cyI 1914 uv, kx_a q_number cyI 1914 un, kx_3 q_joined j_v j_n js jl je, kx_a j_v cyI 12 jv, kx_a j_n cyI 12 jn, kx_3 h0 a_v a_n vs lo le, kx_a a_v cyI 12 fv, kx_a a_n cyI 12 fn] s.heap := hP
  have hl := lv_entry ([.ref m_, .int p0, .int p1, .int p2, .int p3, .int p4, .int p5]) (n := 7) (Nat.le_of_ble_eq_true rfl)
  rw [lg_entry_eq]
  generalize (lg_sl ([.ref m_, .int p0, .int p1, .int p2, .int p3, .int p4, .int p5]) ++ List.replicate (7 - (lg_sl ([.ref m_, .int p0, .int p1, .int p2, .int p3, .int p4, .int p5])).length) Slot.unset).toArray = ls at hl ⊢
  have hl : lv_has ls 7 [(0, .ref m_), (1, .int p0), (2, .int p1), (3, .int p2), (4, .int p3), (5, .int p4), (6, .int p5)] := hl
  have hf_12 := hts (.fieldLink RX4 12 "MajorityIndex" "row" "LMajorityIndex$Row;") (List.mem_of_getElem? (i := 3) rfl)
  have hi_4 : ∀ w ∈ u_ws RX4 TX4 9, w ∈ wsX4_heavyAt := fun w h => List.mem_cons_of_mem _ (List.mem_append_left _ (List.mem_append_left _ (List.mem_append_left _ (List.mem_append_left _ (List.mem_append_right _ h)))))
  have hc_107 := hts (.classLink RX4 107 EXN) (by decide +kernel)
  have hz_ex := hts (.initialized EXN) (by decide +kernel)
  have hf_35 := hts (.fieldLink RX4 35 "MajorityIndex" "votes" "LMajorityIndex$Votes;") (List.mem_of_getElem? (i := 4) rfl)
  have hf_174 := hts (.fieldLink RX4 174 "MajorityIndex$Votes" "size" "I") (List.mem_of_getElem? (i := 5) rfl)
  have hi_3 : ∀ w ∈ u_ws RX3 TX3 5, w ∈ wsX4_heavyAt := fun w h => List.mem_cons_of_mem _ (List.mem_append_left _ (List.mem_append_left _ (List.mem_append_left _ (List.mem_append_right _ h))))
  have hf_136 := hts (.fieldLink RX4 136 "MajorityIndex$Votes" "number" "[I") (List.mem_of_getElem? (i := 7) rfl)
  have hf_133 := hts (.fieldLink RX4 133 "MajorityIndex$Votes" "value" "[I") (List.mem_of_getElem? (i := 6) rfl)
  refine lv_aload_n hx hb dX4_heavyAt_0 rfl (lv_at hl 0 rfl) ?_
  refine va_get (D := (dC, dI)) (ci := 4) (v := .ref q_row) (C := RX4) (T := TX4) (N := 9) hx hb hts hi_4 hown hK hP 0 rfl rfl 0 (by decide) hf_12 (fun _ h9 => h9) rfl dX4_heavyAt_1 ?_
  refine lv_iload_n hx hb dX4_heavyAt_4 rfl (lv_at hl 1 rfl) ?_
  refine lv_iload_n hx hb dX4_heavyAt_5 rfl (lv_at hl 2 rfl) ?_
  have hPc := hP.sub (ws' := [kx_0 q_row q_cell len]) [2] rfl
  have hKc := hK.sub (tys' := []) [] rfl
  refine vp_callSi (W.runV (As := [.int p0, .int p1]) (rest := []) ⟨hx, hb, hml, hown, hts⟩ (c_X0_hasRange l dC dI q_row q_cell len p0 p1) (cwV 2 hts gX4_heavyAt_X0_hasRange rfl rfl rfl (by decide +kernel) ⟨Nat.le_of_ble_eq_true rfl, Nat.le_of_ble_eq_true rfl⟩) ⟨fun a U g mk q => by obtain ⟨q0, qP, qK⟩ := q; exact ⟨q0, qP, va_K.moved (u := U) (U := U.calling g mk a) (Vm.Alike.refl U.vm) qK⟩, kx_rc0 hKc hPc (q0 := 0) rfl, fun U hU hW => ⟨rfl, by rw [hU]; exact hPc, va_K.moved hW.alike hKc⟩⟩ rfl rfl hl.1 rfl (lv_room (Nat.le_of_ble_eq_true rfl)) dX4_heavyAt_6 ⟨Nat.le_of_ble_eq_true rfl, Nat.le_of_ble_eq_true rfl⟩) (fun r_1 w_1 => ?_)
  rcases w_1 with ⟨rfl, w_1⟩ | ⟨rfl, w_1⟩
  · have w_1 : (0 ≤ p0.toInt ∧ p0.toInt < p1.toInt ∧ p1.toInt ≤ len.toInt) := w_1
    refine lv_if_eq (tgt := 37) hx hb dX4_heavyAt_9 (by decide) (fun c_2 => ?_) (fun c_2 => ?_)
    · exact absurd c_2 (by decide)
    · refine lv_iload_n hx hb dX4_heavyAt_12 rfl (lv_at hl 3 rfl) ?_
      refine lv_iload hx hb dX4_heavyAt_13 (lv_at hl 4 rfl) ?_
      have hPc := hP.sub (ws' := []) [] rfl
      have hKc := hK.sub (tys' := []) [] rfl
      refine vp_callSi (W.runS (As := [.int p2, .int p3]) (rest := []) ⟨hx, hb, hml, hown, hts⟩ (c_X4_isShare l dC dI p2 p3) (va_cwS 2 hts gX4_heavyAt_X4_isShare rfl rfl rfl (by decide +kernel) ⟨Nat.le_of_ble_eq_true rfl, Nat.le_of_ble_eq_true rfl⟩) ⟨fun a U g mk q => by obtain ⟨q0, qP, qK⟩ := q; exact ⟨q0, qP, va_K.moved (u := U) (U := U.calling g mk a) (Vm.Alike.refl U.vm) qK⟩, fun U hU hW => ⟨rfl, by rw [hU]; exact hPc, va_K.moved hW.alike hKc⟩⟩ rfl rfl hl.1 rfl (lv_room (Nat.le_of_ble_eq_true rfl)) dX4_heavyAt_15 ⟨Nat.le_of_ble_eq_true rfl, Nat.le_of_ble_eq_true rfl⟩) (fun r_3 w_3 => ?_)
      rcases w_3 with ⟨rfl, w_3⟩ | ⟨rfl, w_3⟩
      · have w_3 : (1 ≤ p2.toInt ∧ p2.toInt ≤ p3.toInt ∧ p3.toInt ≤ 999) := w_3
        refine lv_if_eq (tgt := 37) hx hb dX4_heavyAt_18 (by decide) (fun c_4 => ?_) (fun c_4 => ?_)
        · exact absurd c_4 (by decide)
        · refine lv_iload hx hb dX4_heavyAt_21 (lv_at hl 5 rfl) ?_
          refine lv_if_lt (tgt := 37) hx hb dX4_heavyAt_23 (by decide) (fun c_5 => ?_) (fun c_5 => ?_)
          · have i_5 : p4.toInt < 0 := kc_lt c_5
            have hP9 := hP.sub (ws' := [kx_4 m_ q_row q_t t_ h0 k0 w_ z_ slots old, kx_2 q_t q_row q_joined q_from q_to q_size q_lossOf q_lessBy q_value q_number nodes here, kx_0 q_row q_cell len, kx_a q_cell cyI 160 f, kx_a q_from cyI 319 ff, kx_a q_to cyI 319 ft, kx_a q_size cyI 319 fs, kx_a q_lossOf cyI 319 fo, kx_a q_lessBy cyI 319 fe, kx_a q_value cyI 1914 uv, kx_a q_number cyI 1914 un, kx_3 q_joined j_v j_n js jl je, kx_a j_v cyI 12 jv, kx_a j_n cyI 12 jn, kx_3 h0 a_v a_n vs lo le, kx_a a_v cyI 12 fv, kx_a a_n cyI 12 fn]) [0, 1, 2, 3, 4, 5, 6, 7, 8, 9, 10, 11, 12, 13, 14, 15, 16] rfl
            have hD9 := hD.sub (ws' := [kx_4 m_ q_row q_t t_ h0 k0 w_ z_ slots old, kx_2 q_t q_row q_joined q_from q_to q_size q_lossOf q_lessBy q_value q_number nodes here, kx_0 q_row q_cell len, kx_a q_cell cyI 160 f, kx_a q_from cyI 319 ff, kx_a q_to cyI 319 ft, kx_a q_size cyI 319 fs, kx_a q_lossOf cyI 319 fo, kx_a q_lessBy cyI 319 fe, kx_a q_value cyI 1914 uv, kx_a q_number cyI 1914 un, kx_3 q_joined j_v j_n js jl je, kx_a j_v cyI 12 jv, kx_a j_n cyI 12 jn, kx_3 h0 a_v a_n vs lo le, kx_a a_v cyI 12 fv, kx_a a_n cyI 12 fn]) [0, 1, 2, 3, 4, 5, 6, 7, 8, 9, 10, 11, 12, 13, 14, 15, 16] (by decide) rfl
            have hK9 := hK.sub (tys' := [(cyI, .int)]) [0] rfl
            exact vx_throw0 (names := EXC) hx hb hl0 hown (by decide +kernel) (by decide +kernel) hc_107 hz_ex hat ki_ot hth.2.1 hth.2.2 hS (hl.1.trans hml.symm) dX4_heavyAt_37 dX4_heavyAt_40 dX4_heavyAt_41 dX4_heavyAt_44 (fun x h => (htab x h).elim) (Nat.le_of_ble_eq_true rfl) (Nat.le_of_ble_eq_true rfl) (Nat.le_of_ble_eq_true rfl) (Nat.le_of_ble_eq_true rfl) hlocks (fun t ha hz hk => ⟨(old, nodes, here, ff, ft, fs, fo, fe, uv, un, js, jl, je, jv, jn, vs, lo, le, fv, fn), ⟨(by decide), l0, s0⟩, ⟨rfl, hP9.kept (fun k x hx => hk x.1 ((hP9 k x hx).lt)), va_K.moved ha hK9, hD9⟩, Nat.le_trans hS.1 hz, fun q h1 h2 => (hk q (Nat.lt_of_lt_of_le h1 hS.1)).trans (hS.2.1 q h1 h2)⟩) hS.2.2 (Nat.le_refl _) (Nat.le_refl _)
          · have i_5 : 0 ≤ p4.toInt := kc_nlt c_5
            refine lv_iload hx hb dX4_heavyAt_26 (lv_at hl 6 rfl) ?_
            refine lv_if_lt (tgt := 37) hx hb dX4_heavyAt_28 (by decide) (fun c_6 => ?_) (fun c_6 => ?_)
            · have i_6 : p5.toInt < 0 := kc_lt c_6
              have hP9 := hP.sub (ws' := [kx_4 m_ q_row q_t t_ h0 k0 w_ z_ slots old, kx_2 q_t q_row q_joined q_from q_to q_size q_lossOf q_lessBy q_value q_number nodes here, kx_0 q_row q_cell len, kx_a q_cell cyI 160 f, kx_a q_from cyI 319 ff, kx_a q_to cyI 319 ft, kx_a q_size cyI 319 fs, kx_a q_lossOf cyI 319 fo, kx_a q_lessBy cyI 319 fe, kx_a q_value cyI 1914 uv, kx_a q_number cyI 1914 un, kx_3 q_joined j_v j_n js jl je, kx_a j_v cyI 12 jv, kx_a j_n cyI 12 jn, kx_3 h0 a_v a_n vs lo le, kx_a a_v cyI 12 fv, kx_a a_n cyI 12 fn]) [0, 1, 2, 3, 4, 5, 6, 7, 8, 9, 10, 11, 12, 13, 14, 15, 16] rfl
              have hD9 := hD.sub (ws' := [kx_4 m_ q_row q_t t_ h0 k0 w_ z_ slots old, kx_2 q_t q_row q_joined q_from q_to q_size q_lossOf q_lessBy q_value q_number nodes here, kx_0 q_row q_cell len, kx_a q_cell cyI 160 f, kx_a q_from cyI 319 ff, kx_a q_to cyI 319 ft, kx_a q_size cyI 319 fs, kx_a q_lossOf cyI 319 fo, kx_a q_lessBy cyI 319 fe, kx_a q_value cyI 1914 uv, kx_a q_number cyI 1914 un, kx_3 q_joined j_v j_n js jl je, kx_a j_v cyI 12 jv, kx_a j_n cyI 12 jn, kx_3 h0 a_v a_n vs lo le, kx_a a_v cyI 12 fv, kx_a a_n cyI 12 fn]) [0, 1, 2, 3, 4, 5, 6, 7, 8, 9, 10, 11, 12, 13, 14, 15, 16] (by decide) rfl
              have hK9 := hK.sub (tys' := [(cyI, .int)]) [0] rfl
              exact vx_throw0 (names := EXC) hx hb hl0 hown (by decide +kernel) (by decide +kernel) hc_107 hz_ex hat ki_ot hth.2.1 hth.2.2 hS (hl.1.trans hml.symm) dX4_heavyAt_37 dX4_heavyAt_40 dX4_heavyAt_41 dX4_heavyAt_44 (fun x h => (htab x h).elim) (Nat.le_of_ble_eq_true rfl) (Nat.le_of_ble_eq_true rfl) (Nat.le_of_ble_eq_true rfl) (Nat.le_of_ble_eq_true rfl) hlocks (fun t ha hz hk => ⟨(old, nodes, here, ff, ft, fs, fo, fe, uv, un, js, jl, je, jv, jn, vs, lo, le, fv, fn), ⟨(by decide), l0, s0⟩, ⟨rfl, hP9.kept (fun k x hx => hk x.1 ((hP9 k x hx).lt)), va_K.moved ha hK9, hD9⟩, Nat.le_trans hS.1 hz, fun q h1 h2 => (hk q (Nat.lt_of_lt_of_le h1 hS.1)).trans (hS.2.1 q h1 h2)⟩) hS.2.2 (Nat.le_refl _) (Nat.le_refl _)
            · have i_6 : 0 ≤ p5.toInt := kc_nlt c_6
              refine lv_iload hx hb dX4_heavyAt_31 (lv_at hl 6 rfl) ?_
              refine lv_iconst (v := 1) hx hb dX4_heavyAt_33 (by decide) ?_
              refine lv_icmp_le (tgt := 45) hx hb dX4_heavyAt_34 (by decide) (fun c_7 => ?_) (fun c_7 => ?_)
              · have i_7 : p5.toInt ≤ 1 := kc_le c_7
                refine lv_aload_n hx hb dX4_heavyAt_45 rfl (lv_at hl 0 rfl) ?_
                refine lv_iload_n hx hb dX4_heavyAt_46 rfl (lv_at hl 3 rfl) ?_
                refine lv_iload hx hb dX4_heavyAt_47 (lv_at hl 4 rfl) ?_
                have hPc := hP.sub (ws' := [kx_4 m_ q_row q_t t_ h0 k0 w_ z_ slots old]) [0] rfl
                have hKc := hK.sub (tys' := []) [] rfl
                refine vp_callSi (W.runV (As := [.int p2, .int p3]) (rest := []) ⟨hx, hb, hml, hown, hts⟩ (c_X4_isEnough l dC dI m_ q_row q_t t_ h0 k0 w_ z_ slots old p2 p3) (cwV 2 hts gX4_heavyAt_X4_isEnough rfl rfl rfl (by decide +kernel) ⟨Nat.le_of_ble_eq_true rfl, Nat.le_of_ble_eq_true rfl⟩) ⟨fun a U g mk q => by obtain ⟨q0, qP, qK⟩ := q; exact ⟨q0, qP, va_K.moved (u := U) (U := U.calling g mk a) (Vm.Alike.refl U.vm) qK⟩, kx_rc4 hKc hPc (q0 := 0) rfl, fun U hU hW => ⟨rfl, by rw [hU]; exact hPc, va_K.moved hW.alike hKc⟩⟩ rfl rfl hl.1 rfl (lv_room (Nat.le_of_ble_eq_true rfl)) dX4_heavyAt_49 ⟨Nat.le_of_ble_eq_true rfl, Nat.le_of_ble_eq_true rfl⟩) (fun r_8 w_8 => ?_)
                rcases w_8 with ⟨rfl, w_8⟩ | ⟨rfl, w_8⟩
                · have w_8 : (0 : Int) ≤ 1 := w_8
                  refine lv_if_ne (tgt := 63) hx hb dX4_heavyAt_52 (by decide) (fun c_9 => ?_) (fun c_9 => ?_)
                  · refine lv_aload_n hx hb dX4_heavyAt_63 rfl (lv_at hl 0 rfl) ?_
                    refine lv_aload_n hx hb dX4_heavyAt_64 rfl (lv_at hl 0 rfl) ?_
                    obtain ⟨hPc, hDc, hFc, hCc⟩ := kx_preM (wc := [kx_4 m_ q_row q_t t_ h0 k0 w_ z_ slots old, kx_2 q_t q_row q_joined q_from q_to q_size q_lossOf q_lessBy q_value q_number nodes here, kx_0 q_row q_cell len, kx_a q_cell cyI 160 f, kx_a q_from cyI 319 ff, kx_a q_to cyI 319 ft, kx_a q_size cyI 319 fs, kx_a q_lossOf cyI 319 fo, kx_a q_lessBy cyI 319 fe, kx_a q_value cyI 1914 uv, kx_a q_number cyI 1914 un, kx_3 q_joined j_v j_n js jl je, kx_a j_v cyI 12 jv, kx_a j_n cyI 12 jn]) hP hD hS hA [true, true, true, true, true, true, true, true, true, true, true, true, true, true, false, false, false] rfl
                    have hKc := hK
                    refine va_callr (va_runV (As := []) (rest := [.ref m_]) ⟨hx, hb, hml, hown, hts⟩ (kx_un (c_X4_laidTree l dC dI m_ q_row q_t t_ h0 k0 w_ z_ slots old q_joined q_from q_to q_size q_lossOf q_lessBy q_value q_number nodes here q_cell cyI len f ff ft fs fo uv un fe j_v j_n js jl je jv jn s.heap.size a0 a1 s0 l0)) (cwV 0 hts gX4_heavyAt_X4_laidTree rfl rfl rfl (by decide +kernel) ⟨Nat.le_of_ble_eq_true rfl, Nat.le_of_ble_eq_true rfl⟩) ⟨fun a U g mk q => by obtain ⟨q0, q1, qP, qK, qD⟩ := q; exact ⟨q0, q1, qP, va_K.moved (u := U) (U := U.calling g mk a) (Vm.Alike.refl U.vm) qK, qD⟩, kx_rc4 hKc hPc (q0 := 0) rfl, fun U hU hW => ⟨rfl, by rw [hU], by rw [hU]; exact hPc, va_K.moved hW.alike hKc, hDc.weaken (fun _ _ _ _ => trivial)⟩⟩ rfl rfl hl.1 rfl (lv_room (Nat.le_of_ble_eq_true rfl)) dX4_heavyAt_65 ⟨Nat.le_of_ble_eq_true rfl, Nat.le_of_ble_eq_true rfl⟩) hS (fun q _ h => hFc q h) hFc (fun u ra t H1 locs ht hvm w_10 hB hz1 hk1 hS => ?_)
                    obtain ⟨o_11, o_12, o_13, o_14, o_15, o_16, o_17, o_18, o_19, o_20, o_21, o_22, o_23, o_24, o_25⟩ := u
                    dsimp only at w_10 hB
                    obtain ⟨er, hP1, hK1, hD1⟩ := hB
                    rw [ht] at hP1
                    have hK1 := va_K.moved hvm.symm hK1
                    obtain ⟨hP, hD⟩ := kx_joinM (w2 := [kx_4 m_ q_row q_t t_ h0 k0 w_ z_ slots o_11, kx_2 q_t q_row q_joined q_from q_to q_size q_lossOf q_lessBy q_value q_number o_12 o_13, kx_0 q_row q_cell len, kx_a q_cell cyI 160 f, kx_a q_from cyI 319 o_14, kx_a q_to cyI 319 o_15, kx_a q_size cyI 319 o_16, kx_a q_lossOf cyI 319 o_17, kx_a q_lessBy cyI 319 o_18, kx_a q_value cyI 1914 o_19, kx_a q_number cyI 1914 o_20, kx_3 q_joined j_v j_n o_21 o_22 o_23, kx_a j_v cyI 12 o_24, kx_a j_n cyI 12 o_25, kx_3 h0 a_v a_n vs lo le, kx_a a_v cyI 12 fv, kx_a a_n cyI 12 fn]) hP hD hP1 hD1 hk1 hFc [true, true, true, true, true, true, true, true, true, true, true, true, true, true, false, false, false] hCc rfl
                    clear hP1 hD1 hK1 hk1 hz1 hFc hDc hPc hKc hCc
                    generalize H1 = H at hP hS ⊢
                    have w_10 : o_11.toInt = 0 ∧ 0 ≤ o_12.toInt ∧ o_12.toInt ≤ 319 ∧ sixes o_16 ∧ treeOk o_14 o_15 o_12.toInt len.toInt := w_10
                    rw [er]
                    refine lv_iload_n hx hb dX4_heavyAt_68 rfl (lv_at hl 1 rfl) ?_
                    refine lv_iload_n hx hb dX4_heavyAt_69 rfl (lv_at hl 2 rfl) ?_
                    refine lv_iload_n hx hb dX4_heavyAt_70 rfl (lv_at hl 3 rfl) ?_
                    refine lv_iload hx hb dX4_heavyAt_71 (lv_at hl 4 rfl) ?_
                    obtain ⟨hPc, hDc, hFc, hCc⟩ := kx_pre (wc := [kx_4 m_ q_row q_t t_ h0 k0 w_ z_ slots o_11, kx_0 q_row q_cell len, kx_a q_cell cyI 160 f, kx_2 q_t q_row q_joined q_from q_to q_size q_lossOf q_lessBy q_value q_number o_12 o_13, kx_a q_from cyI 319 o_14, kx_a q_to cyI 319 o_15, kx_a q_size cyI 319 o_16, kx_a q_lossOf cyI 319 o_17, kx_a q_value cyI 1914 o_19, kx_a q_number cyI 1914 o_20, kx_3 h0 a_v a_n vs lo le, kx_a a_v cyI 12 fv, kx_a a_n cyI 12 fn]) hP hD hS hA [0, 2, 3, 1, 4, 5, 6, 7, 9, 10, 14, 15, 16] (by decide) rfl
                    have hKc := hK
                    refine va_callv (va_runV (As := [.ref q_t, .int p0, .int p1, .int p2, .int p3]) (rest := []) ⟨hx, hb, hml, hown, hts⟩ (c_X4_gatherHeavy l dC dI m_ q_row q_t t_ h0 k0 w_ z_ slots o_11 q_joined q_from q_to q_size q_lossOf q_lessBy q_value q_number o_12 o_13 q_cell cyI len f o_14 o_15 o_16 o_17 o_19 o_20 a_v a_n cyI vs lo le fv fn p0 p1 p2 p3 H.size w_10.2.1 w_10.2.2.1 w_10.2.2.2.1 (om_10 w_1.1) (om_167 a1 w_1.2.2)) (cwV 5 hts gX4_heavyAt_X4_gatherHeavy rfl rfl rfl (by decide +kernel) ⟨Nat.le_of_ble_eq_true rfl, Nat.le_of_ble_eq_true rfl⟩) ⟨fun a U g mk q => by obtain ⟨q0, q1, qP, qK, qD, qn0⟩ := q; exact ⟨q0, q1, qP, va_K.moved (u := U) (U := U.calling g mk a) (Vm.Alike.refl U.vm) qK, qD, va_Nw.same (u := U) (U := U.calling g mk a) rfl rfl qn0⟩, kx_rc4 hKc hPc (q0 := 0) rfl, fun U hU hW => ⟨rfl, by rw [hU], by rw [hU]; exact hPc, va_K.moved hW.alike hKc, hDc.weaken (fun _ _ _ _ => trivial), va_Nw.warmM hW hN0⟩⟩ rfl rfl hl.1 rfl (lv_room (Nat.le_of_ble_eq_true rfl)) dX4_heavyAt_73 ⟨Nat.le_of_ble_eq_true rfl, Nat.le_of_ble_eq_true rfl⟩) hS (fun q _ h => hFc q h) hFc (fun u t H1 locs ht hvm w_26 hB hz1 hk1 hS => ?_)
                    obtain ⟨o_27, o_28, o_29, o_30, o_31⟩ := u
                    dsimp only at w_26 hB
                    obtain ⟨hP1, hK1, hD1⟩ := hB
                    rw [ht] at hP1
                    have hK1 := va_K.moved hvm.symm hK1
                    obtain ⟨hP, hD⟩ := kx_join (w2 := [kx_a q_lessBy cyI 319 o_18, kx_3 q_joined j_v j_n o_21 o_22 o_23, kx_a j_v cyI 12 o_24, kx_a j_n cyI 12 o_25, kx_4 m_ q_row q_t t_ h0 k0 w_ z_ slots o_11, kx_0 q_row q_cell len, kx_a q_cell cyI 160 f, kx_2 q_t q_row q_joined q_from q_to q_size q_lossOf q_lessBy q_value q_number o_12 o_13, kx_a q_from cyI 319 o_14, kx_a q_to cyI 319 o_15, kx_a q_size cyI 319 o_16, kx_a q_lossOf cyI 319 o_17, kx_a q_value cyI 1914 o_19, kx_a q_number cyI 1914 o_20, kx_3 h0 a_v a_n o_27 o_28 o_29, kx_a a_v cyI 12 o_30, kx_a a_n cyI 12 o_31]) hP hD hP1 hD1 hk1 hFc [0, 2, 3, 1, 4, 5, 6, 7, 9, 10, 14, 15, 16] [8, 11, 12, 13] hCc rfl (by decide) (by decide)
                    clear hP1 hD1 hK1 hk1 hz1 hFc hDc hPc hKc hCc
                    generalize H1 = H at hP hS ⊢
                    have w_26 : 0 ≤ o_27.toInt ∧ o_27.toInt ≤ 12 := w_26
                    refine lv_iload hx hb dX4_heavyAt_76 (lv_at hl 5 rfl) ?_
                    refine lv_aload_n hx hb dX4_heavyAt_78 rfl (lv_at hl 0 rfl) ?_
                    refine va_get (D := (dC, dI)) (ci := 4) (v := .ref h0) (C := RX4) (T := TX4) (N := 9) hx hb hts hi_4 hown hK hP 4 rfl rfl 3 (by decide) hf_35 (fun _ h9 => h9) rfl dX4_heavyAt_79 ?_
                    refine va_get (D := (dC, dI)) (ci := 3) (v := .int o_27) (C := RX3) (T := TX3) (N := 5) hx hb hts hi_3 hown hK hP 14 rfl rfl 2 (by decide) hf_174 (fun _ h9 => h9) rfl dX4_heavyAt_82 ?_
                    refine lv_icmp_lt (tgt := 96) hx hb dX4_heavyAt_85 (by decide) (fun c_32 => ?_) (fun c_32 => ?_)
                    · have i_32 : p4.toInt < o_27.toInt := kc_lt c_32
                      refine lv_iload hx hb dX4_heavyAt_96 (lv_at hl 6 rfl) ?_
                      refine lv_if_ne (tgt := 114) hx hb dX4_heavyAt_98 (by decide) (fun c_33 => ?_) (fun c_33 => ?_)
                      · have i_33 : ¬ p5.toInt = 0 := kc_ne c_33
                        refine lv_aload_n hx hb dX4_heavyAt_114 rfl (lv_at hl 0 rfl) ?_
                        refine va_get (D := (dC, dI)) (ci := 4) (v := .ref h0) (C := RX4) (T := TX4) (N := 9) hx hb hts hi_4 hown hK hP 4 rfl rfl 3 (by decide) hf_35 (fun _ h9 => h9) rfl dX4_heavyAt_115 ?_
                        refine va_get (D := (dC, dI)) (ci := 3) (v := .ref a_n) (C := RX3) (T := TX3) (N := 5) hx hb hts hi_3 hown hK hP 14 rfl rfl 1 (by decide) hf_136 (fun _ h9 => h9) rfl dX4_heavyAt_118 ?_
                        refine lv_iload hx hb dX4_heavyAt_121 (lv_at hl 5 rfl) ?_
                        refine va_iald hx hb hK hP 16 0 rfl rfl (ki_in (om_10 i_5) (om_32 w_26.2 i_32)) dX4_heavyAt_123 ?_
                        refine lv_topi (fun y_34 ey_34 => ?_)
                        have j_34 : y_34.toInt = (o_31 p4.toNatClampNeg).toInt := congrArg Int32.toInt ey_34
                        refine vx_ret ?_
                        obtain ⟨hP9, hD9⟩ := kx_sub (w2 := [kx_4 m_ q_row q_t t_ h0 k0 w_ z_ slots o_11, kx_2 q_t q_row q_joined q_from q_to q_size q_lossOf q_lessBy q_value q_number o_12 o_13, kx_0 q_row q_cell len, kx_a q_cell cyI 160 f, kx_a q_from cyI 319 o_14, kx_a q_to cyI 319 o_15, kx_a q_size cyI 319 o_16, kx_a q_lossOf cyI 319 o_17, kx_a q_lessBy cyI 319 o_18, kx_a q_value cyI 1914 o_19, kx_a q_number cyI 1914 o_20, kx_3 q_joined j_v j_n o_21 o_22 o_23, kx_a j_v cyI 12 o_24, kx_a j_n cyI 12 o_25, kx_3 h0 a_v a_n o_27 o_28 o_29, kx_a a_v cyI 12 o_30, kx_a a_n cyI 12 o_31]) hP hD [4, 7, 5, 6, 8, 9, 10, 11, 0, 12, 13, 1, 2, 3, 14, 15, 16] (by decide) rfl
                        have hK9 := hK
                        refine W.widen (k := 1) (n := 6) (Nat.le_of_ble_eq_true rfl) (Nat.le_of_ble_eq_true rfl) ?_
                        exact W.iret (v := y_34) hx hb hr (hlocks := hlocks) (fun t ht hW => ⟨⟨y_34, (o_11, o_12, o_13, o_14, o_15, o_16, o_17, o_18, o_19, o_20, o_21, o_22, o_23, o_24, o_25, o_27, o_28, o_29, o_30, o_31), rfl, ⟨(by decide), (fun _ => ⟨(by (try dsimp only); omega), (by (try dsimp only); omega), w_10.2.2.2.2⟩), w_10.2.2.2.1⟩, by rw [ht]; exact hP9, va_K.moved hW.alike hK9, hD9⟩, hS.F ht⟩) hS.2.2 dX4_heavyAt_124
                      · have i_33 : p5.toInt = 0 := kc_eq c_33
                        refine lv_aload_n hx hb dX4_heavyAt_101 rfl (lv_at hl 0 rfl) ?_
                        refine va_get (D := (dC, dI)) (ci := 4) (v := .ref h0) (C := RX4) (T := TX4) (N := 9) hx hb hts hi_4 hown hK hP 4 rfl rfl 3 (by decide) hf_35 (fun _ h9 => h9) rfl dX4_heavyAt_102 ?_
                        refine va_get (D := (dC, dI)) (ci := 3) (v := .ref a_v) (C := RX3) (T := TX3) (N := 5) hx hb hts hi_3 hown hK hP 14 rfl rfl 0 (by decide) hf_133 (fun _ h9 => h9) rfl dX4_heavyAt_105 ?_
                        refine lv_iload hx hb dX4_heavyAt_108 (lv_at hl 5 rfl) ?_
                        refine va_iald hx hb hK hP 15 0 rfl rfl (ki_in (om_10 i_5) (om_32 w_26.2 i_32)) dX4_heavyAt_110 ?_
                        refine lv_topi (fun y_35 ey_35 => ?_)
                        have j_35 : y_35.toInt = (o_30 p4.toNatClampNeg).toInt := congrArg Int32.toInt ey_35
                        refine lv_goto (tgt := 124) hx hb dX4_heavyAt_111 (by decide) ?_
                        refine vx_ret ?_
                        obtain ⟨hP9, hD9⟩ := kx_sub (w2 := [kx_4 m_ q_row q_t t_ h0 k0 w_ z_ slots o_11, kx_2 q_t q_row q_joined q_from q_to q_size q_lossOf q_lessBy q_value q_number o_12 o_13, kx_0 q_row q_cell len, kx_a q_cell cyI 160 f, kx_a q_from cyI 319 o_14, kx_a q_to cyI 319 o_15, kx_a q_size cyI 319 o_16, kx_a q_lossOf cyI 319 o_17, kx_a q_lessBy cyI 319 o_18, kx_a q_value cyI 1914 o_19, kx_a q_number cyI 1914 o_20, kx_3 q_joined j_v j_n o_21 o_22 o_23, kx_a j_v cyI 12 o_24, kx_a j_n cyI 12 o_25, kx_3 h0 a_v a_n o_27 o_28 o_29, kx_a a_v cyI 12 o_30, kx_a a_n cyI 12 o_31]) hP hD [4, 7, 5, 6, 8, 9, 10, 11, 0, 12, 13, 1, 2, 3, 14, 15, 16] (by decide) rfl
                        have hK9 := hK
                        refine W.widen (k := 1) (n := 6) (Nat.le_of_ble_eq_true rfl) (Nat.le_of_ble_eq_true rfl) ?_
                        exact W.iret (v := y_35) hx hb hr (hlocks := hlocks) (fun t ht hW => ⟨⟨y_35, (o_11, o_12, o_13, o_14, o_15, o_16, o_17, o_18, o_19, o_20, o_21, o_22, o_23, o_24, o_25, o_27, o_28, o_29, o_30, o_31), rfl, ⟨(by decide), (fun _ => ⟨(by (try dsimp only); omega), (by (try dsimp only); omega), w_10.2.2.2.2⟩), w_10.2.2.2.1⟩, by rw [ht]; exact hP9, va_K.moved hW.alike hK9, hD9⟩, hS.F ht⟩) hS.2.2 dX4_heavyAt_124
                    · have i_32 : o_27.toInt ≤ p4.toInt := kc_nlt c_32
                      have hP9 := hP.sub (ws' := [kx_4 m_ q_row q_t t_ h0 k0 w_ z_ slots o_11, kx_2 q_t q_row q_joined q_from q_to q_size q_lossOf q_lessBy q_value q_number o_12 o_13, kx_0 q_row q_cell len, kx_a q_cell cyI 160 f, kx_a q_from cyI 319 o_14, kx_a q_to cyI 319 o_15, kx_a q_size cyI 319 o_16, kx_a q_lossOf cyI 319 o_17, kx_a q_lessBy cyI 319 o_18, kx_a q_value cyI 1914 o_19, kx_a q_number cyI 1914 o_20, kx_3 q_joined j_v j_n o_21 o_22 o_23, kx_a j_v cyI 12 o_24, kx_a j_n cyI 12 o_25, kx_3 h0 a_v a_n o_27 o_28 o_29, kx_a a_v cyI 12 o_30, kx_a a_n cyI 12 o_31]) [4, 7, 5, 6, 8, 9, 10, 11, 0, 12, 13, 1, 2, 3, 14, 15, 16] rfl
                      have hD9 := hD.sub (ws' := [kx_4 m_ q_row q_t t_ h0 k0 w_ z_ slots o_11, kx_2 q_t q_row q_joined q_from q_to q_size q_lossOf q_lessBy q_value q_number o_12 o_13, kx_0 q_row q_cell len, kx_a q_cell cyI 160 f, kx_a q_from cyI 319 o_14, kx_a q_to cyI 319 o_15, kx_a q_size cyI 319 o_16, kx_a q_lossOf cyI 319 o_17, kx_a q_lessBy cyI 319 o_18, kx_a q_value cyI 1914 o_19, kx_a q_number cyI 1914 o_20, kx_3 q_joined j_v j_n o_21 o_22 o_23, kx_a j_v cyI 12 o_24, kx_a j_n cyI 12 o_25, kx_3 h0 a_v a_n o_27 o_28 o_29, kx_a a_v cyI 12 o_30, kx_a a_n cyI 12 o_31]) [4, 7, 5, 6, 8, 9, 10, 11, 0, 12, 13, 1, 2, 3, 14, 15, 16] (by decide) rfl
                      have hK9 := hK.sub (tys' := [(cyI, .int)]) [0] rfl
                      exact vx_throw0 (names := EXC) hx hb hl0 hown (by decide +kernel) (by decide +kernel) hc_107 hz_ex hat ki_ot hth.2.1 hth.2.2 hS (hl.1.trans hml.symm) dX4_heavyAt_88 dX4_heavyAt_91 dX4_heavyAt_92 dX4_heavyAt_95 (fun x h => (htab x h).elim) (Nat.le_of_ble_eq_true rfl) (Nat.le_of_ble_eq_true rfl) (Nat.le_of_ble_eq_true rfl) (Nat.le_of_ble_eq_true rfl) hlocks (fun t ha hz hk => ⟨(o_11, o_12, o_13, o_14, o_15, o_16, o_17, o_18, o_19, o_20, o_21, o_22, o_23, o_24, o_25, o_27, o_28, o_29, o_30, o_31), ⟨(by decide), (fun _ => ⟨(by (try dsimp only); omega), (by (try dsimp only); omega), w_10.2.2.2.2⟩), w_10.2.2.2.1⟩, ⟨rfl, hP9.kept (fun k x hx => hk x.1 ((hP9 k x hx).lt)), va_K.moved ha hK9, hD9⟩, Nat.le_trans hS.1 hz, fun q h1 h2 => (hk q (Nat.lt_of_lt_of_le h1 hS.1)).trans (hS.2.1 q h1 h2)⟩) hS.2.2 (Nat.le_refl _) (Nat.le_refl _)
                  · exact absurd c_9 (by decide)
                · have w_8 : (0 : Int) ≤ 1 := w_8
                  refine lv_if_ne (tgt := 63) hx hb dX4_heavyAt_52 (by decide) (fun c_36 => ?_) (fun c_36 => ?_)
                  · exact absurd c_36 (by decide)
                  · have hP9 := hP.sub (ws' := [kx_4 m_ q_row q_t t_ h0 k0 w_ z_ slots old, kx_2 q_t q_row q_joined q_from q_to q_size q_lossOf q_lessBy q_value q_number nodes here, kx_0 q_row q_cell len, kx_a q_cell cyI 160 f, kx_a q_from cyI 319 ff, kx_a q_to cyI 319 ft, kx_a q_size cyI 319 fs, kx_a q_lossOf cyI 319 fo, kx_a q_lessBy cyI 319 fe, kx_a q_value cyI 1914 uv, kx_a q_number cyI 1914 un, kx_3 q_joined j_v j_n js jl je, kx_a j_v cyI 12 jv, kx_a j_n cyI 12 jn, kx_3 h0 a_v a_n vs lo le, kx_a a_v cyI 12 fv, kx_a a_n cyI 12 fn]) [0, 1, 2, 3, 4, 5, 6, 7, 8, 9, 10, 11, 12, 13, 14, 15, 16] rfl
                    have hD9 := hD.sub (ws' := [kx_4 m_ q_row q_t t_ h0 k0 w_ z_ slots old, kx_2 q_t q_row q_joined q_from q_to q_size q_lossOf q_lessBy q_value q_number nodes here, kx_0 q_row q_cell len, kx_a q_cell cyI 160 f, kx_a q_from cyI 319 ff, kx_a q_to cyI 319 ft, kx_a q_size cyI 319 fs, kx_a q_lossOf cyI 319 fo, kx_a q_lessBy cyI 319 fe, kx_a q_value cyI 1914 uv, kx_a q_number cyI 1914 un, kx_3 q_joined j_v j_n js jl je, kx_a j_v cyI 12 jv, kx_a j_n cyI 12 jn, kx_3 h0 a_v a_n vs lo le, kx_a a_v cyI 12 fv, kx_a a_n cyI 12 fn]) [0, 1, 2, 3, 4, 5, 6, 7, 8, 9, 10, 11, 12, 13, 14, 15, 16] (by decide) rfl
                    have hK9 := hK.sub (tys' := [(cyI, .int)]) [0] rfl
                    exact vx_throw0 (names := EXC) hx hb hl0 hown (by decide +kernel) (by decide +kernel) hc_107 hz_ex hat ki_ot hth.2.1 hth.2.2 hS (hl.1.trans hml.symm) dX4_heavyAt_55 dX4_heavyAt_58 dX4_heavyAt_59 dX4_heavyAt_62 (fun x h => (htab x h).elim) (Nat.le_of_ble_eq_true rfl) (Nat.le_of_ble_eq_true rfl) (Nat.le_of_ble_eq_true rfl) (Nat.le_of_ble_eq_true rfl) hlocks (fun t ha hz hk => ⟨(old, nodes, here, ff, ft, fs, fo, fe, uv, un, js, jl, je, jv, jn, vs, lo, le, fv, fn), ⟨(by decide), l0, s0⟩, ⟨rfl, hP9.kept (fun k x hx => hk x.1 ((hP9 k x hx).lt)), va_K.moved ha hK9, hD9⟩, Nat.le_trans hS.1 hz, fun q h1 h2 => (hk q (Nat.lt_of_lt_of_le h1 hS.1)).trans (hS.2.1 q h1 h2)⟩) hS.2.2 (Nat.le_refl _) (Nat.le_refl _)
              · have i_7 : 1 < p5.toInt := kc_nle c_7
                have hP9 := hP.sub (ws' := [kx_4 m_ q_row q_t t_ h0 k0 w_ z_ slots old, kx_2 q_t q_row q_joined q_from q_to q_size q_lossOf q_lessBy q_value q_number nodes here, kx_0 q_row q_cell len, kx_a q_cell cyI 160 f, kx_a q_from cyI 319 ff, kx_a q_to cyI 319 ft, kx_a q_size cyI 319 fs, kx_a q_lossOf cyI 319 fo, kx_a q_lessBy cyI 319 fe, kx_a q_value cyI 1914 uv, kx_a q_number cyI 1914 un, kx_3 q_joined j_v j_n js jl je, kx_a j_v cyI 12 jv, kx_a j_n cyI 12 jn, kx_3 h0 a_v a_n vs lo le, kx_a a_v cyI 12 fv, kx_a a_n cyI 12 fn]) [0, 1, 2, 3, 4, 5, 6, 7, 8, 9, 10, 11, 12, 13, 14, 15, 16] rfl
                have hD9 := hD.sub (ws' := [kx_4 m_ q_row q_t t_ h0 k0 w_ z_ slots old, kx_2 q_t q_row q_joined q_from q_to q_size q_lossOf q_lessBy q_value q_number nodes here, kx_0 q_row q_cell len, kx_a q_cell cyI 160 f, kx_a q_from cyI 319 ff, kx_a q_to cyI 319 ft, kx_a q_size cyI 319 fs, kx_a q_lossOf cyI 319 fo, kx_a q_lessBy cyI 319 fe, kx_a q_value cyI 1914 uv, kx_a q_number cyI 1914 un, kx_3 q_joined j_v j_n js jl je, kx_a j_v cyI 12 jv, kx_a j_n cyI 12 jn, kx_3 h0 a_v a_n vs lo le, kx_a a_v cyI 12 fv, kx_a a_n cyI 12 fn]) [0, 1, 2, 3, 4, 5, 6, 7, 8, 9, 10, 11, 12, 13, 14, 15, 16] (by decide) rfl
                have hK9 := hK.sub (tys' := [(cyI, .int)]) [0] rfl
                exact vx_throw0 (names := EXC) hx hb hl0 hown (by decide +kernel) (by decide +kernel) hc_107 hz_ex hat ki_ot hth.2.1 hth.2.2 hS (hl.1.trans hml.symm) dX4_heavyAt_37 dX4_heavyAt_40 dX4_heavyAt_41 dX4_heavyAt_44 (fun x h => (htab x h).elim) (Nat.le_of_ble_eq_true rfl) (Nat.le_of_ble_eq_true rfl) (Nat.le_of_ble_eq_true rfl) (Nat.le_of_ble_eq_true rfl) hlocks (fun t ha hz hk => ⟨(old, nodes, here, ff, ft, fs, fo, fe, uv, un, js, jl, je, jv, jn, vs, lo, le, fv, fn), ⟨(by decide), l0, s0⟩, ⟨rfl, hP9.kept (fun k x hx => hk x.1 ((hP9 k x hx).lt)), va_K.moved ha hK9, hD9⟩, Nat.le_trans hS.1 hz, fun q h1 h2 => (hk q (Nat.lt_of_lt_of_le h1 hS.1)).trans (hS.2.1 q h1 h2)⟩) hS.2.2 (Nat.le_refl _) (Nat.le_refl _)
      · have w_3 : (p2.toInt < 1 ∨ p3.toInt < p2.toInt ∨ 999 < p3.toInt) := w_3
        refine lv_if_eq (tgt := 37) hx hb dX4_heavyAt_18 (by decide) (fun c_37 => ?_) (fun c_37 => ?_)
        · have hP9 := hP.sub (ws' := [kx_4 m_ q_row q_t t_ h0 k0 w_ z_ slots old, kx_2 q_t q_row q_joined q_from q_to q_size q_lossOf q_lessBy q_value q_number nodes here, kx_0 q_row q_cell len, kx_a q_cell cyI 160 f, kx_a q_from cyI 319 ff, kx_a q_to cyI 319 ft, kx_a q_size cyI 319 fs, kx_a q_lossOf cyI 319 fo, kx_a q_lessBy cyI 319 fe, kx_a q_value cyI 1914 uv, kx_a q_number cyI 1914 un, kx_3 q_joined j_v j_n js jl je, kx_a j_v cyI 12 jv, kx_a j_n cyI 12 jn, kx_3 h0 a_v a_n vs lo le, kx_a a_v cyI 12 fv, kx_a a_n cyI 12 fn]) [0, 1, 2, 3, 4, 5, 6, 7, 8, 9, 10, 11, 12, 13, 14, 15, 16] rfl
          have hD9 := hD.sub (ws' := [kx_4 m_ q_row q_t t_ h0 k0 w_ z_ slots old, kx_2 q_t q_row q_joined q_from q_to q_size q_lossOf q_lessBy q_value q_number nodes here, kx_0 q_row q_cell len, kx_a q_cell cyI 160 f, kx_a q_from cyI 319 ff, kx_a q_to cyI 319 ft, kx_a q_size cyI 319 fs, kx_a q_lossOf cyI 319 fo, kx_a q_lessBy cyI 319 fe, kx_a q_value cyI 1914 uv, kx_a q_number cyI 1914 un, kx_3 q_joined j_v j_n js jl je, kx_a j_v cyI 12 jv, kx_a j_n cyI 12 jn, kx_3 h0 a_v a_n vs lo le, kx_a a_v cyI 12 fv, kx_a a_n cyI 12 fn]) [0, 1, 2, 3, 4, 5, 6, 7, 8, 9, 10, 11, 12, 13, 14, 15, 16] (by decide) rfl
          have hK9 := hK.sub (tys' := [(cyI, .int)]) [0] rfl
          exact vx_throw0 (names := EXC) hx hb hl0 hown (by decide +kernel) (by decide +kernel) hc_107 hz_ex hat ki_ot hth.2.1 hth.2.2 hS (hl.1.trans hml.symm) dX4_heavyAt_37 dX4_heavyAt_40 dX4_heavyAt_41 dX4_heavyAt_44 (fun x h => (htab x h).elim) (Nat.le_of_ble_eq_true rfl) (Nat.le_of_ble_eq_true rfl) (Nat.le_of_ble_eq_true rfl) (Nat.le_of_ble_eq_true rfl) hlocks (fun t ha hz hk => ⟨(old, nodes, here, ff, ft, fs, fo, fe, uv, un, js, jl, je, jv, jn, vs, lo, le, fv, fn), ⟨(by decide), l0, s0⟩, ⟨rfl, hP9.kept (fun k x hx => hk x.1 ((hP9 k x hx).lt)), va_K.moved ha hK9, hD9⟩, Nat.le_trans hS.1 hz, fun q h1 h2 => (hk q (Nat.lt_of_lt_of_le h1 hS.1)).trans (hS.2.1 q h1 h2)⟩) hS.2.2 (Nat.le_refl _) (Nat.le_refl _)
        · exact absurd c_37 (by decide)
  · have w_1 : (p0.toInt < 0 ∨ p1.toInt ≤ p0.toInt ∨ len.toInt < p1.toInt) := w_1
    refine lv_if_eq (tgt := 37) hx hb dX4_heavyAt_9 (by decide) (fun c_38 => ?_) (fun c_38 => ?_)
    · have hP9 := hP.sub (ws' := [kx_4 m_ q_row q_t t_ h0 k0 w_ z_ slots old, kx_2 q_t q_row q_joined q_from q_to q_size q_lossOf q_lessBy q_value q_number nodes here, kx_0 q_row q_cell len, kx_a q_cell cyI 160 f, kx_a q_from cyI 319 ff, kx_a q_to cyI 319 ft, kx_a q_size cyI 319 fs, kx_a q_lossOf cyI 319 fo, kx_a q_lessBy cyI 319 fe, kx_a q_value cyI 1914 uv, kx_a q_number cyI 1914 un, kx_3 q_joined j_v j_n js jl je, kx_a j_v cyI 12 jv, kx_a j_n cyI 12 jn, kx_3 h0 a_v a_n vs lo le, kx_a a_v cyI 12 fv, kx_a a_n cyI 12 fn]) [0, 1, 2, 3, 4, 5, 6, 7, 8, 9, 10, 11, 12, 13, 14, 15, 16] rfl
      have hD9 := hD.sub (ws' := [kx_4 m_ q_row q_t t_ h0 k0 w_ z_ slots old, kx_2 q_t q_row q_joined q_from q_to q_size q_lossOf q_lessBy q_value q_number nodes here, kx_0 q_row q_cell len, kx_a q_cell cyI 160 f, kx_a q_from cyI 319 ff, kx_a q_to cyI 319 ft, kx_a q_size cyI 319 fs, kx_a q_lossOf cyI 319 fo, kx_a q_lessBy cyI 319 fe, kx_a q_value cyI 1914 uv, kx_a q_number cyI 1914 un, kx_3 q_joined j_v j_n js jl je, kx_a j_v cyI 12 jv, kx_a j_n cyI 12 jn, kx_3 h0 a_v a_n vs lo le, kx_a a_v cyI 12 fv, kx_a a_n cyI 12 fn]) [0, 1, 2, 3, 4, 5, 6, 7, 8, 9, 10, 11, 12, 13, 14, 15, 16] (by decide) rfl
      have hK9 := hK.sub (tys' := [(cyI, .int)]) [0] rfl
      exact vx_throw0 (names := EXC) hx hb hl0 hown (by decide +kernel) (by decide +kernel) hc_107 hz_ex hat ki_ot hth.2.1 hth.2.2 hS (hl.1.trans hml.symm) dX4_heavyAt_37 dX4_heavyAt_40 dX4_heavyAt_41 dX4_heavyAt_44 (fun x h => (htab x h).elim) (Nat.le_of_ble_eq_true rfl) (Nat.le_of_ble_eq_true rfl) (Nat.le_of_ble_eq_true rfl) (Nat.le_of_ble_eq_true rfl) hlocks (fun t ha hz hk => ⟨(old, nodes, here, ff, ft, fs, fo, fe, uv, un, js, jl, je, jv, jn, vs, lo, le, fv, fn), ⟨(by decide), l0, s0⟩, ⟨rfl, hP9.kept (fun k x hx => hk x.1 ((hP9 k x hx).lt)), va_K.moved ha hK9, hD9⟩, Nat.le_trans hS.1 hz, fun q h1 h2 => (hk q (Nat.lt_of_lt_of_le h1 hS.1)).trans (hS.2.1 q h1 h2)⟩) hS.2.2 (Nat.le_refl _) (Nat.le_refl _)
    · exact absurd c_38 (by decide)



def RL : String := "MajorityIndexLaw"
abbrev cL_at : ByteArray := method_3_code
def yL_at : MethodName := ⟨RL, "at", "(LMajorityIndex;I[J)I"⟩
abbrev cL_vote : ByteArray := method_4_code
def yL_vote : MethodName := ⟨RL, "vote", "(LMajorityIndex;IIII[J)I"⟩
abbrev cL_candidate : ByteArray := method_5_code
def yL_candidate : MethodName := ⟨RL, "candidate", "(LMajorityIndex;IIII[J)I"⟩
abbrev cL_heavyAt : ByteArray := method_6_code
def yL_heavyAt : MethodName := ⟨RL, "heavyAt", "(LMajorityIndex;IIIIII[J)I"⟩
def wsL_at : List Cond := .codeWith yL_at cL_at 4 (some .int) [(0, 9, 12, 13)] :: ([.classLink RL 13 "java/util/NoSuchElementException", .methodLink RL 7 yX4_at, .instanceMethod yX4_at, .selects RX4 yX4_at yX4_at, .initialized RX4, .code yX4_at cX4_at 2 (some .int), .classLink RX4 107 "java/util/NoSuchElementException", .initialized "java/util/NoSuchElementException", .fieldLink RX4 12 "MajorityIndex" "row" "LMajorityIndex$Row;", .fieldLink RX4 110 "MajorityIndex$Row" "cell" "[I", .methodLink RX4 64 yX0_hasPlace, .instanceMethod yX0_hasPlace, .selects RX0 yX0_hasPlace yX0_hasPlace, .initialized RX0, .code yX0_hasPlace cX0_hasPlace 2 (some .boolean), .fieldLink RX0 15 "MajorityIndex$Row" "length" "I"] ++ wsX40 ++ wsX00 ++ (vx_at0 RX4 109 "java/util/NoSuchElementException" ["java/lang/RuntimeException", "java/lang/Exception"]).filter goodWord)
def wsL_vote_r1 : List Cond := [Cond.classLink RL 13 "java/util/NoSuchElementException", Cond.methodLink RL 15 yX4_vote, Cond.instanceMethod yX4_vote, Cond.selects RX4 yX4_vote yX4_vote, Cond.initialized RX4, Cond.code yX4_vote cX4_vote 7 (some .int), Cond.classLink RX4 107 "java/util/NoSuchElementException", Cond.initialized "java/util/NoSuchElementException", Cond.fieldLink RX4 12 "MajorityIndex" "row" "LMajorityIndex$Row;", Cond.fieldLink RX4 126 "MajorityIndex$Tree" "size" "[I", Cond.fieldLink RX4 35 "MajorityIndex" "votes" "LMajorityIndex$Votes;", Cond.fieldLink RX4 133 "MajorityIndex$Votes" "value" "[I", Cond.fieldLink RX4 136 "MajorityIndex$Votes" "number" "[I", Cond.methodLink RX4 79 yX0_hasRange, Cond.instanceMethod yX0_hasRange, Cond.selects RX0 yX0_hasRange yX0_hasRange, Cond.initialized RX0, Cond.code yX0_hasRange cX0_hasRange 3 (some .boolean), Cond.fieldLink RX0 15 "MajorityIndex$Row" "length" "I", Cond.methodLink RX4 71 yX4_laidTree, Cond.instanceMethod yX4_laidTree, Cond.selects RX4 yX4_laidTree yX4_laidTree, Cond.code yX4_laidTree cX4_laidTree 1 (some (.object "MajorityIndex$Tree")), Cond.fieldLink RX4 53 "MajorityIndex" "treeIsOld" "Z"]
def wsL_vote_r2 : List Cond := [Cond.fieldLink RX4 21 "MajorityIndex" "tree" "LMajorityIndex$Tree;", Cond.fieldLink RX4 49 "MajorityIndex" "slotsNow" "I", Cond.fieldLink RX4 204 "MajorityIndex$Tree" "slotsHere" "I", Cond.fieldLink RX4 57 "MajorityIndex$Row" "length" "I", Cond.methodLink RX4 259 yX2_layRanges, Cond.instanceMethod yX2_layRanges, Cond.selects RX2 yX2_layRanges yX2_layRanges, Cond.initialized RX2, Cond.code yX2_layRanges cX2_layRanges 2 none, Cond.fieldLink RX2 40 "MajorityIndex$Tree" "row" "LMajorityIndex$Row;", Cond.fieldLink RX2 44 "MajorityIndex$Row" "length" "I", Cond.fieldLink RX2 50 "MajorityIndex$Tree" "nodes" "I", Cond.fieldLink RX2 18 "MajorityIndex$Tree" "from" "[I", Cond.fieldLink RX2 22 "MajorityIndex$Tree" "to" "[I", Cond.methodLink RX2 53 yX2_layBelow, Cond.instanceMethod yX2_layBelow, Cond.selects RX2 yX2_layBelow yX2_layBelow, Cond.code yX2_layBelow cX2_layBelow 4 none, Cond.methodLink RX2 57 yX2_rightBelow, Cond.instanceMethod yX2_rightBelow, Cond.selects RX2 yX2_rightBelow yX2_rightBelow, Cond.code yX2_rightBelow cX2_rightBelow 3 (some .int), Cond.methodLink RX4 87 yX2_renew, Cond.instanceMethod yX2_renew]
def wsL_vote_r3 : List Cond := [Cond.selects RX2 yX2_renew yX2_renew, Cond.code yX2_renew cX2_renew 5 (some .int), Cond.methodLink RX2 61 yX2_putTogether, Cond.instanceMethod yX2_putTogether, Cond.selects RX2 yX2_putTogether yX2_putTogether, Cond.code yX2_putTogether cX2_putTogether 2 none, Cond.fieldLink RX2 12 "MajorityIndex$Tree" "joined" "LMajorityIndex$Votes;", Cond.fieldLink RX2 74 "MajorityIndex$Row" "cell" "[I", Cond.fieldLink RX2 85 "MajorityIndex$Tree" "slotsHere" "I", Cond.methodLink RX2 71 yX3_clear, Cond.instanceMethod yX3_clear, Cond.selects RX3 yX3_clear yX3_clear, Cond.initialized RX3, Cond.code yX3_clear cX3_clear 1 none, Cond.fieldLink RX3 18 "MajorityIndex$Votes" "size" "I", Cond.fieldLink RX3 22 "MajorityIndex$Votes" "lost" "I", Cond.fieldLink RX3 25 "MajorityIndex$Votes" "lessBy" "I", Cond.methodLink RX2 77 yX3_add, Cond.instanceMethod yX3_add, Cond.selects RX3 yX3_add yX3_add, Cond.code yX3_add cX3_add 4 none, Cond.fieldLink RX3 9 "MajorityIndex$Votes" "value" "[I", Cond.fieldLink RX3 15 "MajorityIndex$Votes" "number" "[I", Cond.methodLink RX2 81 yX2_joinNode]
def wsL_vote_r4 : List Cond := [Cond.instanceMethod yX2_joinNode, Cond.selects RX2 yX2_joinNode yX2_joinNode, Cond.code yX2_joinNode cX2_joinNode 5 none, Cond.fieldLink RX2 25 "MajorityIndex$Tree" "size" "[I", Cond.fieldLink RX2 34 "MajorityIndex$Tree" "value" "[I", Cond.fieldLink RX2 37 "MajorityIndex$Tree" "number" "[I", Cond.fieldLink RX2 91 "MajorityIndex$Votes" "lost" "I", Cond.fieldLink RX2 28 "MajorityIndex$Tree" "lossOf" "[I", Cond.methodLink RX2 88 yX3_cancel, Cond.instanceMethod yX3_cancel, Cond.selects RX3 yX3_cancel yX3_cancel, Cond.code yX3_cancel cX3_cancel 4 none, Cond.methodLink RX3 32 yX3_order, Cond.instanceMethod yX3_order, Cond.selects RX3 yX3_order yX3_order, Cond.code yX3_order cX3_order 3 none, Cond.methodLink RX3 35 yX3_isAhead, Cond.instanceMethod yX3_isAhead, Cond.selects RX3 yX3_isAhead yX3_isAhead, Cond.code yX3_isAhead cX3_isAhead 3 (some .boolean), Cond.methodLink RX3 39 yX3_exchange, Cond.instanceMethod yX3_exchange, Cond.selects RX3 yX3_exchange yX3_exchange, Cond.code yX3_exchange cX3_exchange 5 none]
def wsL_vote_r5 : List Cond := [Cond.methodLink RX2 64 yX2_isJoined, Cond.instanceMethod yX2_isJoined, Cond.selects RX2 yX2_isJoined yX2_isJoined, Cond.code yX2_isJoined cX2_isJoined 4 (some .boolean), Cond.fieldLink RX2 94 "MajorityIndex$Votes" "size" "I", Cond.fieldLink RX2 96 "MajorityIndex$Votes" "value" "[I", Cond.fieldLink RX2 97 "MajorityIndex$Votes" "number" "[I", Cond.methodLink RX2 68 yX2_keepJoined, Cond.instanceMethod yX2_keepJoined, Cond.selects RX2 yX2_keepJoined yX2_keepJoined, Cond.code yX2_keepJoined cX2_keepJoined 4 none, Cond.methodLink RX2 98 Lib.Math.min.name, Cond.static Lib.Math.min.name, Cond.initialized "java/lang/Math", Cond.code Lib.Math.min.name Lib.Math.min.code 2 (some .int), Cond.fieldLink RX2 31 "MajorityIndex$Tree" "lessBy" "[I", Cond.fieldLink RX2 104 "MajorityIndex$Votes" "lessBy" "I", Cond.methodLink RX4 123 yX2_find, Cond.instanceMethod yX2_find, Cond.selects RX2 yX2_find yX2_find, Cond.code yX2_find cX2_find 4 (some .int), Cond.methodLink RX4 129 yX2_copyTo, Cond.instanceMethod yX2_copyTo, Cond.selects RX2 yX2_copyTo yX2_copyTo]
def wsL_vote_r6 : List Cond := [Cond.code yX2_copyTo cX2_copyTo 3 none]
def wsL_vote : List Cond := .codeWith yL_vote cL_vote 7 (some .int) [(0, 14, 17, 13)] :: ((wsL_vote_r1 ++ (wsL_vote_r2 ++ (wsL_vote_r3 ++ (wsL_vote_r4 ++ (wsL_vote_r5 ++ wsL_vote_r6))))) ++ wsX40 ++ wsX20 ++ wsX30 ++ wsX00 ++ (vx_at0 RX4 109 "java/util/NoSuchElementException" ["java/lang/RuntimeException", "java/lang/Exception"]).filter goodWord)
def wsL_candidate_r1 : List Cond := [Cond.classLink RL 13 "java/util/NoSuchElementException", Cond.methodLink RL 19 yX4_candidate, Cond.instanceMethod yX4_candidate, Cond.selects RX4 yX4_candidate yX4_candidate, Cond.initialized RX4, Cond.code yX4_candidate cX4_candidate 5 (some .int), Cond.classLink RX4 107 "java/util/NoSuchElementException", Cond.initialized "java/util/NoSuchElementException", Cond.fieldLink RX4 12 "MajorityIndex" "row" "LMajorityIndex$Row;", Cond.fieldLink RX4 35 "MajorityIndex" "votes" "LMajorityIndex$Votes;", Cond.fieldLink RX4 174 "MajorityIndex$Votes" "size" "I", Cond.fieldLink RX4 133 "MajorityIndex$Votes" "value" "[I", Cond.fieldLink RX4 136 "MajorityIndex$Votes" "number" "[I", Cond.methodLink RX4 79 yX0_hasRange, Cond.instanceMethod yX0_hasRange, Cond.selects RX0 yX0_hasRange yX0_hasRange, Cond.initialized RX0, Cond.code yX0_hasRange cX0_hasRange 3 (some .boolean), Cond.fieldLink RX0 15 "MajorityIndex$Row" "length" "I", Cond.methodLink RX4 71 yX4_laidTree, Cond.instanceMethod yX4_laidTree, Cond.selects RX4 yX4_laidTree yX4_laidTree, Cond.code yX4_laidTree cX4_laidTree 1 (some (.object "MajorityIndex$Tree")), Cond.fieldLink RX4 53 "MajorityIndex" "treeIsOld" "Z"]
def wsL_candidate_r2 : List Cond := [Cond.fieldLink RX4 21 "MajorityIndex" "tree" "LMajorityIndex$Tree;", Cond.fieldLink RX4 49 "MajorityIndex" "slotsNow" "I", Cond.fieldLink RX4 204 "MajorityIndex$Tree" "slotsHere" "I", Cond.fieldLink RX4 57 "MajorityIndex$Row" "length" "I", Cond.methodLink RX4 259 yX2_layRanges, Cond.instanceMethod yX2_layRanges, Cond.selects RX2 yX2_layRanges yX2_layRanges, Cond.initialized RX2, Cond.code yX2_layRanges cX2_layRanges 2 none, Cond.fieldLink RX2 40 "MajorityIndex$Tree" "row" "LMajorityIndex$Row;", Cond.fieldLink RX2 44 "MajorityIndex$Row" "length" "I", Cond.fieldLink RX2 50 "MajorityIndex$Tree" "nodes" "I", Cond.fieldLink RX2 18 "MajorityIndex$Tree" "from" "[I", Cond.fieldLink RX2 22 "MajorityIndex$Tree" "to" "[I", Cond.methodLink RX2 53 yX2_layBelow, Cond.instanceMethod yX2_layBelow, Cond.selects RX2 yX2_layBelow yX2_layBelow, Cond.code yX2_layBelow cX2_layBelow 4 none, Cond.methodLink RX2 57 yX2_rightBelow, Cond.instanceMethod yX2_rightBelow, Cond.selects RX2 yX2_rightBelow yX2_rightBelow, Cond.code yX2_rightBelow cX2_rightBelow 3 (some .int), Cond.methodLink RX4 87 yX2_renew, Cond.instanceMethod yX2_renew]
def wsL_candidate_r3 : List Cond := [Cond.selects RX2 yX2_renew yX2_renew, Cond.code yX2_renew cX2_renew 5 (some .int), Cond.methodLink RX2 61 yX2_putTogether, Cond.instanceMethod yX2_putTogether, Cond.selects RX2 yX2_putTogether yX2_putTogether, Cond.code yX2_putTogether cX2_putTogether 2 none, Cond.fieldLink RX2 12 "MajorityIndex$Tree" "joined" "LMajorityIndex$Votes;", Cond.fieldLink RX2 74 "MajorityIndex$Row" "cell" "[I", Cond.fieldLink RX2 85 "MajorityIndex$Tree" "slotsHere" "I", Cond.methodLink RX2 71 yX3_clear, Cond.instanceMethod yX3_clear, Cond.selects RX3 yX3_clear yX3_clear, Cond.initialized RX3, Cond.code yX3_clear cX3_clear 1 none, Cond.fieldLink RX3 18 "MajorityIndex$Votes" "size" "I", Cond.fieldLink RX3 22 "MajorityIndex$Votes" "lost" "I", Cond.fieldLink RX3 25 "MajorityIndex$Votes" "lessBy" "I", Cond.methodLink RX2 77 yX3_add, Cond.instanceMethod yX3_add, Cond.selects RX3 yX3_add yX3_add, Cond.code yX3_add cX3_add 4 none, Cond.fieldLink RX3 9 "MajorityIndex$Votes" "value" "[I", Cond.fieldLink RX3 15 "MajorityIndex$Votes" "number" "[I", Cond.methodLink RX2 81 yX2_joinNode]
def wsL_candidate_r4 : List Cond := [Cond.instanceMethod yX2_joinNode, Cond.selects RX2 yX2_joinNode yX2_joinNode, Cond.code yX2_joinNode cX2_joinNode 5 none, Cond.fieldLink RX2 25 "MajorityIndex$Tree" "size" "[I", Cond.fieldLink RX2 34 "MajorityIndex$Tree" "value" "[I", Cond.fieldLink RX2 37 "MajorityIndex$Tree" "number" "[I", Cond.fieldLink RX2 91 "MajorityIndex$Votes" "lost" "I", Cond.fieldLink RX2 28 "MajorityIndex$Tree" "lossOf" "[I", Cond.methodLink RX2 88 yX3_cancel, Cond.instanceMethod yX3_cancel, Cond.selects RX3 yX3_cancel yX3_cancel, Cond.code yX3_cancel cX3_cancel 4 none, Cond.methodLink RX3 32 yX3_order, Cond.instanceMethod yX3_order, Cond.selects RX3 yX3_order yX3_order, Cond.code yX3_order cX3_order 3 none, Cond.methodLink RX3 35 yX3_isAhead, Cond.instanceMethod yX3_isAhead, Cond.selects RX3 yX3_isAhead yX3_isAhead, Cond.code yX3_isAhead cX3_isAhead 3 (some .boolean), Cond.methodLink RX3 39 yX3_exchange, Cond.instanceMethod yX3_exchange, Cond.selects RX3 yX3_exchange yX3_exchange, Cond.code yX3_exchange cX3_exchange 5 none]
def wsL_candidate_r5 : List Cond := [Cond.methodLink RX2 64 yX2_isJoined, Cond.instanceMethod yX2_isJoined, Cond.selects RX2 yX2_isJoined yX2_isJoined, Cond.code yX2_isJoined cX2_isJoined 4 (some .boolean), Cond.fieldLink RX2 94 "MajorityIndex$Votes" "size" "I", Cond.fieldLink RX2 96 "MajorityIndex$Votes" "value" "[I", Cond.fieldLink RX2 97 "MajorityIndex$Votes" "number" "[I", Cond.methodLink RX2 68 yX2_keepJoined, Cond.instanceMethod yX2_keepJoined, Cond.selects RX2 yX2_keepJoined yX2_keepJoined, Cond.code yX2_keepJoined cX2_keepJoined 4 none, Cond.methodLink RX2 98 Lib.Math.min.name, Cond.static Lib.Math.min.name, Cond.initialized "java/lang/Math", Cond.code Lib.Math.min.name Lib.Math.min.code 2 (some .int), Cond.fieldLink RX2 31 "MajorityIndex$Tree" "lessBy" "[I", Cond.fieldLink RX2 104 "MajorityIndex$Votes" "lessBy" "I", Cond.methodLink RX4 170 yX2_gather, Cond.instanceMethod yX2_gather, Cond.selects RX2 yX2_gather yX2_gather, Cond.code yX2_gather cX2_gather 6 none, Cond.methodLink RX2 106 yX2_isPart, Cond.instanceMethod yX2_isPart, Cond.selects RX2 yX2_isPart yX2_isPart]
def wsL_candidate_r6 : List Cond := [Cond.code yX2_isPart cX2_isPart 4 (some .boolean), Cond.methodLink RX4 113 yX0_oftenIn, Cond.instanceMethod yX0_oftenIn, Cond.selects RX0 yX0_oftenIn yX0_oftenIn, Cond.code yX0_oftenIn cX0_oftenIn 6 (some .int), Cond.fieldLink RX0 9 "MajorityIndex$Row" "cell" "[I"]
def wsL_candidate : List Cond := .codeWith yL_candidate cL_candidate 7 (some .int) [(0, 14, 17, 13)] :: ((wsL_candidate_r1 ++ (wsL_candidate_r2 ++ (wsL_candidate_r3 ++ (wsL_candidate_r4 ++ (wsL_candidate_r5 ++ wsL_candidate_r6))))) ++ wsX40 ++ wsX30 ++ wsX00 ++ wsX20 ++ (vx_at0 RX4 109 "java/util/NoSuchElementException" ["java/lang/RuntimeException", "java/lang/Exception"]).filter goodWord)
def wsL_heavyAt_r1 : List Cond := [Cond.classLink RL 13 "java/util/NoSuchElementException", Cond.methodLink RL 22 yX4_heavyAt, Cond.instanceMethod yX4_heavyAt, Cond.selects RX4 yX4_heavyAt yX4_heavyAt, Cond.initialized RX4, Cond.code yX4_heavyAt cX4_heavyAt 7 (some .int), Cond.classLink RX4 107 "java/util/NoSuchElementException", Cond.initialized "java/util/NoSuchElementException", Cond.fieldLink RX4 12 "MajorityIndex" "row" "LMajorityIndex$Row;", Cond.fieldLink RX4 35 "MajorityIndex" "votes" "LMajorityIndex$Votes;", Cond.fieldLink RX4 174 "MajorityIndex$Votes" "size" "I", Cond.fieldLink RX4 133 "MajorityIndex$Votes" "value" "[I", Cond.fieldLink RX4 136 "MajorityIndex$Votes" "number" "[I", Cond.methodLink RX4 79 yX0_hasRange, Cond.instanceMethod yX0_hasRange, Cond.selects RX0 yX0_hasRange yX0_hasRange, Cond.initialized RX0, Cond.code yX0_hasRange cX0_hasRange 3 (some .boolean), Cond.fieldLink RX0 15 "MajorityIndex$Row" "length" "I", Cond.methodLink RX4 186 yX4_isShare, Cond.static yX4_isShare, Cond.code yX4_isShare cX4_isShare 2 (some .boolean), Cond.methodLink RX4 189 yX4_isEnough, Cond.instanceMethod yX4_isEnough]
def wsL_heavyAt_r2 : List Cond := [Cond.selects RX4 yX4_isEnough yX4_isEnough, Cond.code yX4_isEnough cX4_isEnough 3 (some .boolean), Cond.fieldLink RX4 49 "MajorityIndex" "slotsNow" "I", Cond.methodLink RX4 71 yX4_laidTree, Cond.instanceMethod yX4_laidTree, Cond.selects RX4 yX4_laidTree yX4_laidTree, Cond.code yX4_laidTree cX4_laidTree 1 (some (.object "MajorityIndex$Tree")), Cond.fieldLink RX4 53 "MajorityIndex" "treeIsOld" "Z", Cond.fieldLink RX4 21 "MajorityIndex" "tree" "LMajorityIndex$Tree;", Cond.fieldLink RX4 204 "MajorityIndex$Tree" "slotsHere" "I", Cond.fieldLink RX4 57 "MajorityIndex$Row" "length" "I", Cond.methodLink RX4 259 yX2_layRanges, Cond.instanceMethod yX2_layRanges, Cond.selects RX2 yX2_layRanges yX2_layRanges, Cond.initialized RX2, Cond.code yX2_layRanges cX2_layRanges 2 none, Cond.fieldLink RX2 40 "MajorityIndex$Tree" "row" "LMajorityIndex$Row;", Cond.fieldLink RX2 44 "MajorityIndex$Row" "length" "I", Cond.fieldLink RX2 50 "MajorityIndex$Tree" "nodes" "I", Cond.fieldLink RX2 18 "MajorityIndex$Tree" "from" "[I", Cond.fieldLink RX2 22 "MajorityIndex$Tree" "to" "[I", Cond.methodLink RX2 53 yX2_layBelow, Cond.instanceMethod yX2_layBelow, Cond.selects RX2 yX2_layBelow yX2_layBelow]
def wsL_heavyAt_r3 : List Cond := [Cond.code yX2_layBelow cX2_layBelow 4 none, Cond.methodLink RX2 57 yX2_rightBelow, Cond.instanceMethod yX2_rightBelow, Cond.selects RX2 yX2_rightBelow yX2_rightBelow, Cond.code yX2_rightBelow cX2_rightBelow 3 (some .int), Cond.methodLink RX4 87 yX2_renew, Cond.instanceMethod yX2_renew, Cond.selects RX2 yX2_renew yX2_renew, Cond.code yX2_renew cX2_renew 5 (some .int), Cond.methodLink RX2 61 yX2_putTogether, Cond.instanceMethod yX2_putTogether, Cond.selects RX2 yX2_putTogether yX2_putTogether, Cond.code yX2_putTogether cX2_putTogether 2 none, Cond.fieldLink RX2 12 "MajorityIndex$Tree" "joined" "LMajorityIndex$Votes;", Cond.fieldLink RX2 74 "MajorityIndex$Row" "cell" "[I", Cond.fieldLink RX2 85 "MajorityIndex$Tree" "slotsHere" "I", Cond.methodLink RX2 71 yX3_clear, Cond.instanceMethod yX3_clear, Cond.selects RX3 yX3_clear yX3_clear, Cond.initialized RX3, Cond.code yX3_clear cX3_clear 1 none, Cond.fieldLink RX3 18 "MajorityIndex$Votes" "size" "I", Cond.fieldLink RX3 22 "MajorityIndex$Votes" "lost" "I", Cond.fieldLink RX3 25 "MajorityIndex$Votes" "lessBy" "I"]
def wsL_heavyAt_r4 : List Cond := [Cond.methodLink RX2 77 yX3_add, Cond.instanceMethod yX3_add, Cond.selects RX3 yX3_add yX3_add, Cond.code yX3_add cX3_add 4 none, Cond.fieldLink RX3 9 "MajorityIndex$Votes" "value" "[I", Cond.fieldLink RX3 15 "MajorityIndex$Votes" "number" "[I", Cond.methodLink RX2 81 yX2_joinNode, Cond.instanceMethod yX2_joinNode, Cond.selects RX2 yX2_joinNode yX2_joinNode, Cond.code yX2_joinNode cX2_joinNode 5 none, Cond.fieldLink RX2 25 "MajorityIndex$Tree" "size" "[I", Cond.fieldLink RX2 34 "MajorityIndex$Tree" "value" "[I", Cond.fieldLink RX2 37 "MajorityIndex$Tree" "number" "[I", Cond.fieldLink RX2 91 "MajorityIndex$Votes" "lost" "I", Cond.fieldLink RX2 28 "MajorityIndex$Tree" "lossOf" "[I", Cond.methodLink RX2 88 yX3_cancel, Cond.instanceMethod yX3_cancel, Cond.selects RX3 yX3_cancel yX3_cancel, Cond.code yX3_cancel cX3_cancel 4 none, Cond.methodLink RX3 32 yX3_order, Cond.instanceMethod yX3_order, Cond.selects RX3 yX3_order yX3_order, Cond.code yX3_order cX3_order 3 none, Cond.methodLink RX3 35 yX3_isAhead]
def wsL_heavyAt_r5 : List Cond := [Cond.instanceMethod yX3_isAhead, Cond.selects RX3 yX3_isAhead yX3_isAhead, Cond.code yX3_isAhead cX3_isAhead 3 (some .boolean), Cond.methodLink RX3 39 yX3_exchange, Cond.instanceMethod yX3_exchange, Cond.selects RX3 yX3_exchange yX3_exchange, Cond.code yX3_exchange cX3_exchange 5 none, Cond.methodLink RX2 64 yX2_isJoined, Cond.instanceMethod yX2_isJoined, Cond.selects RX2 yX2_isJoined yX2_isJoined, Cond.code yX2_isJoined cX2_isJoined 4 (some .boolean), Cond.fieldLink RX2 94 "MajorityIndex$Votes" "size" "I", Cond.fieldLink RX2 96 "MajorityIndex$Votes" "value" "[I", Cond.fieldLink RX2 97 "MajorityIndex$Votes" "number" "[I", Cond.methodLink RX2 68 yX2_keepJoined, Cond.instanceMethod yX2_keepJoined, Cond.selects RX2 yX2_keepJoined yX2_keepJoined, Cond.code yX2_keepJoined cX2_keepJoined 4 none, Cond.methodLink RX2 98 Lib.Math.min.name, Cond.static Lib.Math.min.name, Cond.initialized "java/lang/Math", Cond.code Lib.Math.min.name Lib.Math.min.code 2 (some .int), Cond.fieldLink RX2 31 "MajorityIndex$Tree" "lessBy" "[I", Cond.fieldLink RX2 104 "MajorityIndex$Votes" "lessBy" "I"]
def wsL_heavyAt_r6 : List Cond := [Cond.methodLink RX4 192 yX4_gatherHeavy, Cond.instanceMethod yX4_gatherHeavy, Cond.selects RX4 yX4_gatherHeavy yX4_gatherHeavy, Cond.code yX4_gatherHeavy cX4_gatherHeavy 7 none, Cond.methodLink RX4 170 yX2_gather, Cond.instanceMethod yX2_gather, Cond.selects RX2 yX2_gather yX2_gather, Cond.code yX2_gather cX2_gather 6 none, Cond.methodLink RX2 106 yX2_isPart, Cond.instanceMethod yX2_isPart, Cond.selects RX2 yX2_isPart yX2_isPart, Cond.code yX2_isPart cX2_isPart 4 (some .boolean), Cond.methodLink RX4 113 yX0_oftenIn, Cond.instanceMethod yX0_oftenIn, Cond.selects RX0 yX0_oftenIn yX0_oftenIn, Cond.code yX0_oftenIn cX0_oftenIn 6 (some .int), Cond.fieldLink RX0 9 "MajorityIndex$Row" "cell" "[I", Cond.methodLink RX4 262 yX3_keepHeavy, Cond.instanceMethod yX3_keepHeavy, Cond.selects RX3 yX3_keepHeavy yX3_keepHeavy, Cond.code yX3_keepHeavy cX3_keepHeavy 6 none, Cond.static yX4_isHeavy, Cond.code yX4_isHeavy cX4_isHeavy 4 (some .boolean)]
def wsL_heavyAt : List Cond := .codeWith yL_heavyAt cL_heavyAt 9 (some .int) [(0, 18, 21, 13)] :: ((wsL_heavyAt_r1 ++ (wsL_heavyAt_r2 ++ (wsL_heavyAt_r3 ++ (wsL_heavyAt_r4 ++ (wsL_heavyAt_r5 ++ wsL_heavyAt_r6))))) ++ wsX40 ++ wsX30 ++ wsX00 ++ wsX20 ++ (vx_at0 RX4 109 "java/util/NoSuchElementException" ["java/lang/RuntimeException", "java/lang/Exception"]).filter goodWord)
set_option maxRecDepth 20000 in
theorem ggL_at_X4_at : GoodIn wsL_at wsX4_at := goodIn_ca (goodIn_r _ [6, 7, 8, 9, 10, 11, 12, 13, 14, 15, 16, 17, 18, 19, 20, 21, 22, 23, 24, 25, 26, 27] rfl (by decide +kernel)) (goodIn_sub (fun _ h => List.mem_cons_of_mem _ (List.mem_append_right _ h)) (by decide +kernel))
set_option maxRecDepth 20000 in
theorem gL_at_X4_at : GoodIn wsL_at (wsV RL 7 RX4 yX4_at wsX4_at) := goodIn_app (goodIn_r _ [2, 3, 4, 5] rfl (by decide +kernel)) ggL_at_X4_at
def dt_cL_at_0 : List (Nat × Nat × Nat × Nat) := [(0, 44, 0, 0), (1, 3, 0, 0), (2, 42, 0, 0), (3, 27, 0, 0), (4, 182, 2, 7), (7, 133, 0, 0), (8, 80, 0, 0), (9, 167, 2, 6), (12, 78, 0, 0), (13, 4, 0, 0), (14, 172, 0, 0), (15, 3, 0, 0), (16, 172, 0, 0)]
theorem da_cL_at_0 : fw dt_cL_at_0 0 cL_at.data.toList = true := by decide +kernel
theorem dL_at_0 : decode cL_at 0 = .ok (.aload_n 2, 1) := fo_44 (fw_get da_cL_at_0 0 rfl)
theorem dL_at_1 : decode cL_at 1 = .ok (.iconst 0, 1) := fo_3 (fw_get da_cL_at_0 1 rfl)
theorem dL_at_2 : decode cL_at 2 = .ok (.aload_n 0, 1) := fo_42 (fw_get da_cL_at_0 2 rfl)
theorem dL_at_3 : decode cL_at 3 = .ok (.iload_n 1, 1) := fo_27 (fw_get da_cL_at_0 3 rfl)
theorem dL_at_4 : decode cL_at 4 = .ok (.invokevirtual 7, 3) := fo_182 (fw_get da_cL_at_0 4 rfl)
theorem dL_at_7 : decode cL_at 7 = .ok (.i2l, 1) := fo_133 (fw_get da_cL_at_0 5 rfl)
theorem dL_at_8 : decode cL_at 8 = .ok (.lastore, 1) := fo_80 (fw_get da_cL_at_0 6 rfl)
theorem dL_at_9 : decode cL_at 9 = .ok (.goto 6, 3) := fo_167 (fw_get da_cL_at_0 7 rfl) (by decide +kernel)
theorem dL_at_12 : decode cL_at 12 = .ok (.astore_n 3, 1) := fo_78 (fw_get da_cL_at_0 8 rfl)
theorem dL_at_13 : decode cL_at 13 = .ok (.iconst 1, 1) := fo_4 (fw_get da_cL_at_0 9 rfl)
theorem dL_at_14 : decode cL_at 14 = .ok (.ireturn, 1) := fo_172 (fw_get da_cL_at_0 10 rfl)
theorem dL_at_15 : decode cL_at 15 = .ok (.iconst 0, 1) := fo_3 (fw_get da_cL_at_0 11 rfl)
theorem dL_at_16 : decode cL_at 16 = .ok (.ireturn, 1) := fo_172 (fw_get da_cL_at_0 12 rfl)
set_option maxRecDepth 20000 in
theorem ggL_vote_X4_vote : GoodIn wsL_vote wsX4_vote := goodIn_ca (goodIn_r _ [6, 7, 8, 9, 10, 11, 12, 13, 14, 15, 16, 17, 18, 19, 20, 21, 22, 5, 23, 24, 25, 26, 27, 28, 29, 30, 31, 32, 33, 34, 35, 36, 37, 38, 39, 40, 41, 42, 43, 44, 45, 46, 47, 48, 49, 50, 51, 52, 53, 54, 55, 56, 57, 58, 59, 60, 61, 62, 63, 64, 65, 66, 67, 68, 69, 70, 71, 72, 73, 74, 75, 76, 77, 78, 79, 80, 81, 82, 83, 84, 85, 86, 87, 88, 89, 90, 91, 92, 93, 94, 95, 96, 97, 98, 99, 100, 101, 102, 103, 104, 105, 106, 107, 108, 109, 110, 111, 112, 113, 114, 115, 116, 117, 118, 119, 120, 121, 122, 123, 124, 125, 126, 127, 128, 129, 130, 131, 132, 133, 134, 135, 136, 137, 138, 139, 140, 141, 142, 143, 144, 145, 146, 147, 148] rfl (by decide +kernel)) (goodIn_sub (fun _ h => List.mem_cons_of_mem _ (List.mem_append_right _ h)) (by decide +kernel))
set_option maxRecDepth 20000 in
theorem gL_vote_X4_vote : GoodIn wsL_vote (wsV RL 15 RX4 yX4_vote wsX4_vote) := goodIn_app (goodIn_r _ [2, 3, 4, 5] rfl (by decide +kernel)) ggL_vote_X4_vote
def dt_cL_vote_0 : List (Nat × Nat × Nat × Nat) := [(0, 25, 1, 5), (2, 3, 0, 0), (3, 42, 0, 0), (4, 27, 0, 0), (5, 28, 0, 0), (6, 29, 0, 0), (7, 21, 1, 4), (9, 182, 2, 15), (12, 133, 0, 0), (13, 80, 0, 0), (14, 167, 2, 7), (17, 58, 1, 6), (19, 4, 0, 0), (20, 172, 0, 0), (21, 3, 0, 0), (22, 172, 0, 0)]
theorem da_cL_vote_0 : fw dt_cL_vote_0 0 cL_vote.data.toList = true := by decide +kernel
theorem dL_vote_0 : decode cL_vote 0 = .ok (.aload 5, 2) := fo_25 (fw_get da_cL_vote_0 0 rfl)
theorem dL_vote_2 : decode cL_vote 2 = .ok (.iconst 0, 1) := fo_3 (fw_get da_cL_vote_0 1 rfl)
theorem dL_vote_3 : decode cL_vote 3 = .ok (.aload_n 0, 1) := fo_42 (fw_get da_cL_vote_0 2 rfl)
theorem dL_vote_4 : decode cL_vote 4 = .ok (.iload_n 1, 1) := fo_27 (fw_get da_cL_vote_0 3 rfl)
theorem dL_vote_5 : decode cL_vote 5 = .ok (.iload_n 2, 1) := fo_28 (fw_get da_cL_vote_0 4 rfl)
theorem dL_vote_6 : decode cL_vote 6 = .ok (.iload_n 3, 1) := fo_29 (fw_get da_cL_vote_0 5 rfl)
theorem dL_vote_7 : decode cL_vote 7 = .ok (.iload 4, 2) := fo_21 (fw_get da_cL_vote_0 6 rfl)
theorem dL_vote_9 : decode cL_vote 9 = .ok (.invokevirtual 15, 3) := fo_182 (fw_get da_cL_vote_0 7 rfl)
theorem dL_vote_12 : decode cL_vote 12 = .ok (.i2l, 1) := fo_133 (fw_get da_cL_vote_0 8 rfl)
theorem dL_vote_13 : decode cL_vote 13 = .ok (.lastore, 1) := fo_80 (fw_get da_cL_vote_0 9 rfl)
theorem dL_vote_14 : decode cL_vote 14 = .ok (.goto 7, 3) := fo_167 (fw_get da_cL_vote_0 10 rfl) (by decide +kernel)
theorem dL_vote_17 : decode cL_vote 17 = .ok (.astore 6, 2) := fo_58 (fw_get da_cL_vote_0 11 rfl)
theorem dL_vote_19 : decode cL_vote 19 = .ok (.iconst 1, 1) := fo_4 (fw_get da_cL_vote_0 12 rfl)
theorem dL_vote_20 : decode cL_vote 20 = .ok (.ireturn, 1) := fo_172 (fw_get da_cL_vote_0 13 rfl)
theorem dL_vote_21 : decode cL_vote 21 = .ok (.iconst 0, 1) := fo_3 (fw_get da_cL_vote_0 14 rfl)
theorem dL_vote_22 : decode cL_vote 22 = .ok (.ireturn, 1) := fo_172 (fw_get da_cL_vote_0 15 rfl)
set_option maxRecDepth 20000 in
theorem ggL_candidate_X4_candidate : GoodIn wsL_candidate wsX4_candidate := goodIn_ca (goodIn_r _ [6, 7, 8, 9, 10, 11, 12, 13, 14, 15, 16, 17, 18, 19, 20, 21, 22, 5, 23, 24, 25, 26, 27, 28, 29, 30, 31, 32, 33, 34, 35, 36, 37, 38, 39, 40, 41, 42, 43, 44, 45, 46, 47, 48, 49, 50, 51, 52, 53, 54, 55, 56, 57, 58, 59, 60, 61, 62, 63, 64, 65, 66, 67, 68, 69, 70, 71, 72, 73, 74, 75, 76, 77, 78, 79, 80, 81, 82, 83, 84, 85, 86, 87, 88, 89, 90, 91, 92, 93, 94, 95, 96, 97, 98, 99, 100, 101, 102, 103, 104, 105, 106, 107, 108, 109, 110, 111, 112, 113, 114, 115, 116, 117, 118, 119, 120, 121, 122, 123, 124, 125, 126, 127, 128, 129, 130, 131, 132, 133, 134, 135, 136, 137, 138, 139, 140, 141, 142, 143, 144, 145, 146, 147, 148, 149, 150, 151, 152, 153] rfl (by decide +kernel)) (goodIn_sub (fun _ h => List.mem_cons_of_mem _ (List.mem_append_right _ h)) (by decide +kernel))
set_option maxRecDepth 20000 in
theorem gL_candidate_X4_candidate : GoodIn wsL_candidate (wsV RL 19 RX4 yX4_candidate wsX4_candidate) := goodIn_app (goodIn_r _ [2, 3, 4, 5] rfl (by decide +kernel)) ggL_candidate_X4_candidate
def dt_cL_candidate_0 : List (Nat × Nat × Nat × Nat) := [(0, 25, 1, 5), (2, 3, 0, 0), (3, 42, 0, 0), (4, 27, 0, 0), (5, 28, 0, 0), (6, 29, 0, 0), (7, 21, 1, 4), (9, 182, 2, 19), (12, 133, 0, 0), (13, 80, 0, 0), (14, 167, 2, 7), (17, 58, 1, 6), (19, 4, 0, 0), (20, 172, 0, 0), (21, 3, 0, 0), (22, 172, 0, 0)]
theorem da_cL_candidate_0 : fw dt_cL_candidate_0 0 cL_candidate.data.toList = true := by decide +kernel
theorem dL_candidate_0 : decode cL_candidate 0 = .ok (.aload 5, 2) := fo_25 (fw_get da_cL_candidate_0 0 rfl)
theorem dL_candidate_2 : decode cL_candidate 2 = .ok (.iconst 0, 1) := fo_3 (fw_get da_cL_candidate_0 1 rfl)
theorem dL_candidate_3 : decode cL_candidate 3 = .ok (.aload_n 0, 1) := fo_42 (fw_get da_cL_candidate_0 2 rfl)
theorem dL_candidate_4 : decode cL_candidate 4 = .ok (.iload_n 1, 1) := fo_27 (fw_get da_cL_candidate_0 3 rfl)
theorem dL_candidate_5 : decode cL_candidate 5 = .ok (.iload_n 2, 1) := fo_28 (fw_get da_cL_candidate_0 4 rfl)
theorem dL_candidate_6 : decode cL_candidate 6 = .ok (.iload_n 3, 1) := fo_29 (fw_get da_cL_candidate_0 5 rfl)
theorem dL_candidate_7 : decode cL_candidate 7 = .ok (.iload 4, 2) := fo_21 (fw_get da_cL_candidate_0 6 rfl)
theorem dL_candidate_9 : decode cL_candidate 9 = .ok (.invokevirtual 19, 3) := fo_182 (fw_get da_cL_candidate_0 7 rfl)
theorem dL_candidate_12 : decode cL_candidate 12 = .ok (.i2l, 1) := fo_133 (fw_get da_cL_candidate_0 8 rfl)
theorem dL_candidate_13 : decode cL_candidate 13 = .ok (.lastore, 1) := fo_80 (fw_get da_cL_candidate_0 9 rfl)
theorem dL_candidate_14 : decode cL_candidate 14 = .ok (.goto 7, 3) := fo_167 (fw_get da_cL_candidate_0 10 rfl) (by decide +kernel)
theorem dL_candidate_17 : decode cL_candidate 17 = .ok (.astore 6, 2) := fo_58 (fw_get da_cL_candidate_0 11 rfl)
theorem dL_candidate_19 : decode cL_candidate 19 = .ok (.iconst 1, 1) := fo_4 (fw_get da_cL_candidate_0 12 rfl)
theorem dL_candidate_20 : decode cL_candidate 20 = .ok (.ireturn, 1) := fo_172 (fw_get da_cL_candidate_0 13 rfl)
theorem dL_candidate_21 : decode cL_candidate 21 = .ok (.iconst 0, 1) := fo_3 (fw_get da_cL_candidate_0 14 rfl)
theorem dL_candidate_22 : decode cL_candidate 22 = .ok (.ireturn, 1) := fo_172 (fw_get da_cL_candidate_0 15 rfl)
set_option maxRecDepth 20000 in
theorem ggL_heavyAt_X4_heavyAt : GoodIn wsL_heavyAt wsX4_heavyAt := goodIn_ca (goodIn_r _ [6, 7, 8, 9, 10, 11, 12, 13, 14, 15, 16, 17, 18, 19, 20, 21, 5, 22, 23, 24, 25, 26, 27, 28, 29, 30, 31, 32, 33, 34, 35, 36, 37, 38, 39, 40, 41, 42, 43, 44, 45, 46, 47, 48, 49, 50, 51, 52, 53, 54, 55, 56, 57, 58, 59, 60, 61, 62, 63, 64, 65, 66, 67, 68, 69, 70, 71, 72, 73, 74, 75, 76, 77, 78, 79, 80, 81, 82, 83, 84, 85, 86, 87, 88, 89, 90, 91, 92, 93, 94, 95, 96, 97, 98, 99, 100, 101, 102, 103, 104, 105, 106, 107, 108, 109, 110, 111, 112, 113, 114, 115, 116, 117, 118, 119, 120, 121, 122, 123, 124, 125, 126, 127, 128, 129, 130, 131, 132, 133, 134, 135, 136, 137, 138, 139, 140, 141, 142, 143, 144, 145, 146, 147, 148, 149, 150, 151, 152, 153, 154, 155, 156, 157, 158, 159, 160, 161, 162, 163, 164, 165, 166, 167, 168, 169, 170] rfl (by decide +kernel)) (goodIn_sub (fun _ h => List.mem_cons_of_mem _ (List.mem_append_right _ h)) (by decide +kernel))
set_option maxRecDepth 20000 in
theorem gL_heavyAt_X4_heavyAt : GoodIn wsL_heavyAt (wsV RL 22 RX4 yX4_heavyAt wsX4_heavyAt) := goodIn_app (goodIn_r _ [2, 3, 4, 5] rfl (by decide +kernel)) ggL_heavyAt_X4_heavyAt
def dt_cL_heavyAt_0 : List (Nat × Nat × Nat × Nat) := [(0, 25, 1, 7), (2, 3, 0, 0), (3, 42, 0, 0), (4, 27, 0, 0), (5, 28, 0, 0), (6, 29, 0, 0), (7, 21, 1, 4), (9, 21, 1, 5), (11, 21, 1, 6), (13, 182, 2, 22), (16, 133, 0, 0), (17, 80, 0, 0), (18, 167, 2, 7), (21, 58, 1, 8), (23, 4, 0, 0), (24, 172, 0, 0), (25, 3, 0, 0), (26, 172, 0, 0)]
theorem da_cL_heavyAt_0 : fw dt_cL_heavyAt_0 0 cL_heavyAt.data.toList = true := by decide +kernel
theorem dL_heavyAt_0 : decode cL_heavyAt 0 = .ok (.aload 7, 2) := fo_25 (fw_get da_cL_heavyAt_0 0 rfl)
theorem dL_heavyAt_2 : decode cL_heavyAt 2 = .ok (.iconst 0, 1) := fo_3 (fw_get da_cL_heavyAt_0 1 rfl)
theorem dL_heavyAt_3 : decode cL_heavyAt 3 = .ok (.aload_n 0, 1) := fo_42 (fw_get da_cL_heavyAt_0 2 rfl)
theorem dL_heavyAt_4 : decode cL_heavyAt 4 = .ok (.iload_n 1, 1) := fo_27 (fw_get da_cL_heavyAt_0 3 rfl)
theorem dL_heavyAt_5 : decode cL_heavyAt 5 = .ok (.iload_n 2, 1) := fo_28 (fw_get da_cL_heavyAt_0 4 rfl)
theorem dL_heavyAt_6 : decode cL_heavyAt 6 = .ok (.iload_n 3, 1) := fo_29 (fw_get da_cL_heavyAt_0 5 rfl)
theorem dL_heavyAt_7 : decode cL_heavyAt 7 = .ok (.iload 4, 2) := fo_21 (fw_get da_cL_heavyAt_0 6 rfl)
theorem dL_heavyAt_9 : decode cL_heavyAt 9 = .ok (.iload 5, 2) := fo_21 (fw_get da_cL_heavyAt_0 7 rfl)
theorem dL_heavyAt_11 : decode cL_heavyAt 11 = .ok (.iload 6, 2) := fo_21 (fw_get da_cL_heavyAt_0 8 rfl)
theorem dL_heavyAt_13 : decode cL_heavyAt 13 = .ok (.invokevirtual 22, 3) := fo_182 (fw_get da_cL_heavyAt_0 9 rfl)
theorem dL_heavyAt_16 : decode cL_heavyAt 16 = .ok (.i2l, 1) := fo_133 (fw_get da_cL_heavyAt_0 10 rfl)
theorem dL_heavyAt_17 : decode cL_heavyAt 17 = .ok (.lastore, 1) := fo_80 (fw_get da_cL_heavyAt_0 11 rfl)
theorem dL_heavyAt_18 : decode cL_heavyAt 18 = .ok (.goto 7, 3) := fo_167 (fw_get da_cL_heavyAt_0 12 rfl) (by decide +kernel)
theorem dL_heavyAt_21 : decode cL_heavyAt 21 = .ok (.astore 8, 2) := fo_58 (fw_get da_cL_heavyAt_0 13 rfl)
theorem dL_heavyAt_23 : decode cL_heavyAt 23 = .ok (.iconst 1, 1) := fo_4 (fw_get da_cL_heavyAt_0 14 rfl)
theorem dL_heavyAt_24 : decode cL_heavyAt 24 = .ok (.ireturn, 1) := fo_172 (fw_get da_cL_heavyAt_0 15 rfl)
theorem dL_heavyAt_25 : decode cL_heavyAt 25 = .ok (.iconst 0, 1) := fo_3 (fw_get da_cL_heavyAt_0 16 rfl)
theorem dL_heavyAt_26 : decode cL_heavyAt 26 = .ok (.ireturn, 1) := fo_172 (fw_get da_cL_heavyAt_0 17 rfl)


set_option maxHeartbeats 4000000 in
set_option maxRecDepth 100000 in
theorem c_L_at (l : Launch) (hl0 : l.stackTraces = false) (dC : Nat → ClassId) (dI : Nat → Nat → Nat) (m_ : Nat) (q_row : Nat) (q_t : Nat) (t_ : Nat) (h0 : Nat) (k0 : Nat) (w_ : Nat) (z_ : Nat) (slots : Int32) (old : Int32) (q_cell : Nat) (cyI : ClassId) (len : Int32) (f : Nat → Int32) (p0 : Int32) (cyL : ClassId) (ho : Nat) (ol : Nat → Int64) (sz : Nat) (a0 : 0 ≤ len.toInt) (a1 : len.toInt ≤ 160) : Met l yL_at wsL_at ({ frames := 9, cells := 1, slots := 6, locals := 405 }) (va_Pc [.ref m_, .int p0, .ref ho] (fun U => U.heap.size = sz ∧ va_P (dC, dI) vwCl [kx_4 m_ q_row q_t t_ h0 k0 w_ z_ slots old, kx_0 q_row q_cell len, kx_a q_cell cyI 160 f, (ho, .inl (cyL, 1, .inr (.inl ol)))] U.heap ∧ va_K (dC, dI) vwCl [(cyI, .int), (cyL, .long)] U ∧ va_D (fun _ => True) [kx_4 m_ q_row q_t t_ h0 k0 w_ z_ slots old, kx_0 q_row q_cell len, kx_a q_cell cyI 160 f, (ho, .inl (cyL, 1, .inr (.inl ol)))] ∧ ki_ThA (va_A [kx_4 m_ q_row q_t t_ h0 k0 w_ z_ slots old, kx_0 q_row q_cell len, kx_a q_cell cyI 160 f, (ho, .inl (cyL, 1, .inr (.inl ol)))] sz) U)) (va_Qi (fun (r : Int32) (u : (Nat → Int64) × Int32) => ((r = 0 ∧ (0 ≤ p0.toInt ∧ p0.toInt < len.toInt ∧ u.2 = f p0.toNatClampNeg) ∧ u.1 = vp_updL ol (0 : Int32).toNatClampNeg u.2.toInt64) ∨ (r = 1 ∧ ((p0.toInt < 0 ∨ len.toInt ≤ p0.toInt))))) (fun (u : (Nat → Int64) × Int32) (t : State) => va_P (dC, dI) vwCl [kx_4 m_ q_row q_t t_ h0 k0 w_ z_ slots old, kx_0 q_row q_cell len, kx_a q_cell cyI 160 f, (ho, .inl (cyL, 1, .inr (.inl u.1)))] t.heap ∧ va_K (dC, dI) vwCl [(cyI, .int), (cyL, .long)] t ∧ va_D (va_A [kx_4 m_ q_row q_t t_ h0 k0 w_ z_ slots old, kx_0 q_row q_cell len, kx_a q_cell cyI 160 f, (ho, .inl (cyL, 1, .inr (.inl ol)))] sz) [kx_4 m_ q_row q_t t_ h0 k0 w_ z_ slots old, kx_0 q_row q_cell len, kx_a q_cell cyI 160 f, (ho, .inl (cyL, 1, .inr (.inl u.1)))]) (va_A [kx_4 m_ q_row q_t t_ h0 k0 w_ z_ slots old, kx_0 q_row q_cell len, kx_a q_cell cyI 160 f, (ho, .inl (cyL, 1, .inr (.inl ol)))] sz)) 1 6 (va_A [kx_4 m_ q_row q_t t_ h0 k0 w_ z_ slots old, kx_0 q_row q_cell len, kx_a q_cell cyI 160 f, (ho, .inl (cyL, 1, .inr (.inl ol)))] sz) := by
  refine va_MetW (cc := cL_at) (maxL := 4) (ret := (some .int)) (hh := [(0, 9, 12, 13)]) (by decide) rfl ?_
  intro p e s m args below meth c s₁ B hml hv
  obtain ⟨rfl, hsz, hP, hK, hD0, hth⟩ := hv
  have hx := B.exec
  have hb := B.bytes
  have hr := B.returns
  have hts := atoms_spec (ws := wsL_at) B.pre
  have hown : s.vm.findClass RL = some m.cls := findClass_of_methodNamed B.named
  have hlocks := B.notSynchronized
  have htb : c.exceptionTable.toList = tableOf [(0, 9, 12, 13)] := vx_table (x := yL_at) B (hts (.codeWith yL_at cL_at 4 (some .int) [(0, 9, 12, 13)]) List.mem_cons_self)
  subst hsz
  have hD := hD0.self (sz := s.heap.size)
  generalize hAe : va_A [kx_4 m_ q_row q_t t_ h0 k0 w_ z_ slots old, kx_0 q_row q_cell len, kx_a q_cell cyI 160 f, (ho, .inl (cyL, 1, .inr (.inl ol)))] s.heap.size = A at hD hth ⊢
  have hA : ∀ q : Nat, s.heap.size ≤ q → A q := fun q h => by rw [← hAe]; exact Or.inr h
  have hS : va_S A s.heap s.heap [] := va_S.rf
  have hP : va_P (dC, dI) vwCl [kx_4 m_ q_row q_t t_ h0 k0 w_ z_ slots old, kx_0 q_row q_cell len, kx_a q_cell cyI 160 f, (ho, .inl (cyL, 1, .inr (.inl ol)))] s.heap := hP
  have hl := lv_entry ([.ref m_, .int p0, .ref ho]) (n := 4) (Nat.le_of_ble_eq_true rfl)
  rw [lg_entry_eq]
  generalize (lg_sl ([.ref m_, .int p0, .ref ho]) ++ List.replicate (4 - (lg_sl ([.ref m_, .int p0, .ref ho])).length) Slot.unset).toArray = ls at hl ⊢
  have hl : lv_has ls 4 [(0, .ref m_), (1, .int p0), (2, .ref ho)] := hl
  refine lv_aload_n hx hb dL_at_0 rfl (lv_at hl 2 rfl) ?_
  refine lv_iconst (v := 0) hx hb dL_at_1 (by decide) ?_
  refine lv_aload_n hx hb dL_at_2 rfl (lv_at hl 0 rfl) ?_
  refine lv_iload_n hx hb dL_at_3 rfl (lv_at hl 1 rfl) ?_
  have hPc := hP.sub (ws' := [kx_4 m_ q_row q_t t_ h0 k0 w_ z_ slots old, kx_0 q_row q_cell len, kx_a q_cell cyI 160 f]) [0, 1, 2] rfl
  have hKc := hK.sub (tys' := [(cyI, .int)]) [0] rfl
  have hDc := hD.sub (ws' := [kx_4 m_ q_row q_t t_ h0 k0 w_ z_ slots old, kx_0 q_row q_cell len, kx_a q_cell cyI 160 f]) [0, 1, 2] (by decide) rfl
  have hFc := va_free (wc := [kx_4 m_ q_row q_t t_ h0 k0 w_ z_ slots old, kx_0 q_row q_cell len, kx_a q_cell cyI 160 f]) hD hS hA [0, 1, 2] rfl
  refine vx_calli (vx_runV (As := [.int p0]) (rest := [.int 0, .ref ho]) ⟨hx, hb, hml, hown, hts⟩ (c_X4_at l hl0 dC dI m_ q_row q_t t_ h0 k0 w_ z_ slots old q_cell cyI len f p0 s.heap.size a0 a1) (cwV 1 hts gL_at_X4_at rfl rfl rfl (by decide +kernel) ⟨Nat.le_of_ble_eq_true rfl, Nat.le_of_ble_eq_true rfl⟩) ⟨fun a U g mk q => by obtain ⟨q0, q1, qP, qK, qD, qT⟩ := q; exact ⟨q0, q1, qP, va_K.moved (u := U) (U := U.calling g mk a) (Vm.Alike.refl U.vm) qK, qD, qT.call g mk a⟩, kx_rc4 hKc hPc (q0 := 0) rfl, fun U hU hW => ⟨rfl, by rw [hU], by rw [hU]; exact hPc, va_K.moved hW.alike hKc, hDc.weaken (fun _ _ _ _ => trivial), hth.from hS hU hW hFc⟩⟩ rfl rfl hl.1 rfl (lv_room (Nat.le_of_ble_eq_true rfl)) dL_at_4 ⟨Nat.le_of_ble_eq_true rfl, Nat.le_of_ble_eq_true rfl⟩) hS (fun q _ h => hFc q h) hFc (fun q _ h => hFc q h) (fun E ce q9 u t H1 locs ht hvm w_1 hB hz1 hk1 hS hce hcv hcl => ?_) (fun r_1 u t H1 locs ht hvm w_1 hB hz1 hk1 hS => ?_)
  · obtain ⟨hE, hP1, hK1, hD1⟩ := hB
    subst hE
    rw [ht] at hP1
    have hK1 := va_K.moved hvm.symm hK1
    obtain ⟨hP, hD⟩ := va_join (wr := [(ho, .inl (cyL, 1, .inr (.inl ol)))]) (w1 := [kx_4 m_ q_row q_t t_ h0 k0 w_ z_ slots old, kx_0 q_row q_cell len, kx_a q_cell cyI 160 f]) hP hD [0, 1, 2] [3] rfl rfl (by decide) (by decide) hk1 hFc hP1 hD1
    clear hP1 hD1 hK1 hk1 hz1 hFc hDc hPc hKc
    generalize H1 = H at hP hS hce ⊢
    obtain ⟨hP, hD⟩ := kx_re (w2 := [(ho, .inl (cyL, 1, .inr (.inl ol))), kx_4 m_ q_row q_t t_ h0 k0 w_ z_ slots old, kx_0 q_row q_cell len, kx_a q_cell cyI 160 f]) hP hD rfl
    refine vx_catch hown [] ⟨0, 9, 12, 13⟩ [] htb (fun z hz => by cases hz) (by decide) (by decide) (hts (.classLink RL 13 EXN) (by decide +kernel)) (va_Nw.use rfl hth.1.1) hce hcv hcl ?_
    refine W.eq (g2 := F0 m 12 ls [.ref q9]) rfl ?_
    have w_1 : (p0.toInt < 0 ∨ len.toInt ≤ p0.toInt) := w_1
    refine W.widen (k := 1) (n := 6) (Nat.le_of_ble_eq_true rfl) (Nat.le_of_ble_eq_true rfl) ?_
    refine lv_astore_n (lv' := [(3, .ref q9), (0, .ref m_), (1, .int p0), (2, .ref ho)]) hx hb dL_at_12 rfl hl (by decide) rfl (fun ls hl => ?_)
    refine lv_iconst (v := 1) hx hb dL_at_13 (by decide) ?_
    obtain ⟨hP9, hD9⟩ := kx_sub (w2 := [kx_4 m_ q_row q_t t_ h0 k0 w_ z_ slots old, kx_0 q_row q_cell len, kx_a q_cell cyI 160 f, (ho, .inl (cyL, 1, .inr (.inl ol)))]) hP hD [1, 2, 3, 0] (by decide) rfl
    have hK9 := hK
    exact W.iret (v := 1) hx hb hr (hlocks := hlocks) (fun t ht hW => ⟨⟨1, (ol, (0 : Int32)), rfl, (Or.inr ⟨rfl, w_1⟩), by rw [ht]; exact hP9, va_K.moved hW.alike hK9, hD9⟩, hS.F ht⟩) hS.2.2 dL_at_14
  · obtain ⟨hP1, hK1, hD1⟩ := hB
    rw [ht] at hP1
    have hK1 := va_K.moved hvm.symm hK1
    obtain ⟨hP, hD⟩ := va_join (wr := [(ho, .inl (cyL, 1, .inr (.inl ol)))]) (w1 := [kx_4 m_ q_row q_t t_ h0 k0 w_ z_ slots old, kx_0 q_row q_cell len, kx_a q_cell cyI 160 f]) hP hD [0, 1, 2] [3] rfl rfl (by decide) (by decide) hk1 hFc hP1 hD1
    clear hP1 hD1 hK1 hk1 hz1 hFc hDc hPc hKc
    generalize H1 = H at hP hS ⊢
    obtain ⟨hP, hD⟩ := kx_re (w2 := [(ho, .inl (cyL, 1, .inr (.inl ol))), kx_4 m_ q_row q_t t_ h0 k0 w_ z_ slots old, kx_0 q_row q_cell len, kx_a q_cell cyI 160 f]) hP hD rfl
    have w_1 : 0 ≤ p0.toInt ∧ p0.toInt < len.toInt ∧ r_1 = f p0.toNatClampNeg := w_1
    refine W.widen (k := 1) (n := 6) (Nat.le_of_ble_eq_true rfl) (Nat.le_of_ble_eq_true rfl) ?_
    refine lv_i2l hx hb dL_at_7 rfl ?_
    refine va_last hx hb hK hP hD hS 0 1 rfl rfl (ki_inl (by decide)) dL_at_8 (fun H locs hP hD hS => ?_)
    obtain ⟨hP, hD⟩ := kx_re (w2 := [(ho, .inl (cyL, 1, .inr (.inl (vp_updL ol (0 : Int32).toNatClampNeg r_1.toInt64)))), kx_4 m_ q_row q_t t_ h0 k0 w_ z_ slots old, kx_0 q_row q_cell len, kx_a q_cell cyI 160 f]) hP hD rfl
    refine lv_goto (tgt := 15) hx hb dL_at_9 (by decide) ?_
    refine lv_iconst (v := 0) hx hb dL_at_15 (by decide) ?_
    obtain ⟨hP9, hD9⟩ := kx_sub (w2 := [kx_4 m_ q_row q_t t_ h0 k0 w_ z_ slots old, kx_0 q_row q_cell len, kx_a q_cell cyI 160 f, (ho, .inl (cyL, 1, .inr (.inl (vp_updL ol (0 : Int32).toNatClampNeg r_1.toInt64))))]) hP hD [1, 2, 3, 0] (by decide) rfl
    have hK9 := hK
    exact W.iret (v := 0) hx hb hr (hlocks := hlocks) (fun t ht hW => ⟨⟨0, ((vp_updL ol (0 : Int32).toNatClampNeg r_1.toInt64), r_1), rfl, (Or.inl ⟨rfl, w_1, rfl⟩), by rw [ht]; exact hP9, va_K.moved hW.alike hK9, hD9⟩, hS.F ht⟩) hS.2.2 dL_at_16

set_option maxHeartbeats 4000000 in
set_option maxRecDepth 100000 in
theorem c_L_vote (l : Launch) (hl0 : l.stackTraces = false) (dC : Nat → ClassId) (dI : Nat → Nat → Nat) (m_ : Nat) (q_row : Nat) (q_t : Nat) (t_ : Nat) (h0 : Nat) (k0 : Nat) (w_ : Nat) (z_ : Nat) (slots : Int32) (old : Int32) (q_joined : Nat) (q_from : Nat) (q_to : Nat) (q_size : Nat) (q_lossOf : Nat) (q_lessBy : Nat) (q_value : Nat) (q_number : Nat) (nodes : Int32) (here : Int32) (q_cell : Nat) (cyI : ClassId) (len : Int32) (f : Nat → Int32) (ff : Nat → Int32) (ft : Nat → Int32) (fs : Nat → Int32) (fo : Nat → Int32) (uv : Nat → Int32) (un : Nat → Int32) (fe : Nat → Int32) (j_v : Nat) (j_n : Nat) (js : Int32) (jl : Int32) (je : Int32) (jv : Nat → Int32) (jn : Nat → Int32) (a_v : Nat) (a_n : Nat) (vs : Int32) (lo : Int32) (le : Int32) (fv : Nat → Int32) (fn : Nat → Int32) (p0 : Int32) (p1 : Int32) (p2 : Int32) (p3 : Int32) (cyL : ClassId) (ho : Nat) (ol : Nat → Int64) (sz : Nat) (a0 : 0 ≤ len.toInt) (a1 : len.toInt ≤ 160) (s0 : sixes fs) (l0 : laidP old ff ft nodes len) : Met l yL_vote wsL_vote ({ frames := 9, cells := 1, slots := 6, locals := 405 }) (va_Pc [.ref m_, .int p0, .int p1, .int p2, .int p3, .ref ho] (fun U => U.heap.size = sz ∧ va_P (dC, dI) vwCl [kx_4 m_ q_row q_t t_ h0 k0 w_ z_ slots old, kx_2 q_t q_row q_joined q_from q_to q_size q_lossOf q_lessBy q_value q_number nodes here, kx_0 q_row q_cell len, kx_a q_cell cyI 160 f, kx_a q_from cyI 319 ff, kx_a q_to cyI 319 ft, kx_a q_size cyI 319 fs, kx_a q_lossOf cyI 319 fo, kx_a q_lessBy cyI 319 fe, kx_a q_value cyI 1914 uv, kx_a q_number cyI 1914 un, kx_3 q_joined j_v j_n js jl je, kx_a j_v cyI 12 jv, kx_a j_n cyI 12 jn, kx_3 h0 a_v a_n vs lo le, kx_a a_v cyI 12 fv, kx_a a_n cyI 12 fn, (ho, .inl (cyL, 1, .inr (.inl ol)))] U.heap ∧ va_K (dC, dI) vwCl [(cyI, .int), (cyL, .long)] U ∧ va_D (fun _ => True) [kx_4 m_ q_row q_t t_ h0 k0 w_ z_ slots old, kx_2 q_t q_row q_joined q_from q_to q_size q_lossOf q_lessBy q_value q_number nodes here, kx_0 q_row q_cell len, kx_a q_cell cyI 160 f, kx_a q_from cyI 319 ff, kx_a q_to cyI 319 ft, kx_a q_size cyI 319 fs, kx_a q_lossOf cyI 319 fo, kx_a q_lessBy cyI 319 fe, kx_a q_value cyI 1914 uv, kx_a q_number cyI 1914 un, kx_3 q_joined j_v j_n js jl je, kx_a j_v cyI 12 jv, kx_a j_n cyI 12 jn, kx_3 h0 a_v a_n vs lo le, kx_a a_v cyI 12 fv, kx_a a_n cyI 12 fn, (ho, .inl (cyL, 1, .inr (.inl ol)))] ∧ ki_ThA (va_A [kx_4 m_ q_row q_t t_ h0 k0 w_ z_ slots old, kx_2 q_t q_row q_joined q_from q_to q_size q_lossOf q_lessBy q_value q_number nodes here, kx_0 q_row q_cell len, kx_a q_cell cyI 160 f, kx_a q_from cyI 319 ff, kx_a q_to cyI 319 ft, kx_a q_size cyI 319 fs, kx_a q_lossOf cyI 319 fo, kx_a q_lessBy cyI 319 fe, kx_a q_value cyI 1914 uv, kx_a q_number cyI 1914 un, kx_3 q_joined j_v j_n js jl je, kx_a j_v cyI 12 jv, kx_a j_n cyI 12 jn, kx_3 h0 a_v a_n vs lo le, kx_a a_v cyI 12 fv, kx_a a_n cyI 12 fn, (ho, .inl (cyL, 1, .inr (.inl ol)))] sz) U)) (va_Qi (fun (r : Int32) (u : Int32 × Int32 × Int32 × (Nat → Int32) × (Nat → Int32) × (Nat → Int32) × (Nat → Int32) × (Nat → Int32) × (Nat → Int32) × (Nat → Int32) × Int32 × Int32 × Int32 × (Nat → Int32) × (Nat → Int32) × Int32 × Int32 × Int32 × (Nat → Int32) × (Nat → Int32) × (Nat → Int64) × Int32) => ((r = 0 ∧ ((0 : Int) ≤ 1) ∧ u.2.2.2.2.2.2.2.2.2.2.2.2.2.2.2.2.2.2.2.2.1 = vp_updL ol (0 : Int32).toNatClampNeg u.2.2.2.2.2.2.2.2.2.2.2.2.2.2.2.2.2.2.2.2.2.toInt64) ∨ (r = 1 ∧ ((0 : Int) ≤ 1))) ∧ laidP u.1 u.2.2.2.1 u.2.2.2.2.1 u.2.1 len ∧ sixes u.2.2.2.2.2.1) (fun (u : Int32 × Int32 × Int32 × (Nat → Int32) × (Nat → Int32) × (Nat → Int32) × (Nat → Int32) × (Nat → Int32) × (Nat → Int32) × (Nat → Int32) × Int32 × Int32 × Int32 × (Nat → Int32) × (Nat → Int32) × Int32 × Int32 × Int32 × (Nat → Int32) × (Nat → Int32) × (Nat → Int64) × Int32) (t : State) => va_P (dC, dI) vwCl [kx_4 m_ q_row q_t t_ h0 k0 w_ z_ slots u.1, kx_2 q_t q_row q_joined q_from q_to q_size q_lossOf q_lessBy q_value q_number u.2.1 u.2.2.1, kx_0 q_row q_cell len, kx_a q_cell cyI 160 f, kx_a q_from cyI 319 u.2.2.2.1, kx_a q_to cyI 319 u.2.2.2.2.1, kx_a q_size cyI 319 u.2.2.2.2.2.1, kx_a q_lossOf cyI 319 u.2.2.2.2.2.2.1, kx_a q_lessBy cyI 319 u.2.2.2.2.2.2.2.1, kx_a q_value cyI 1914 u.2.2.2.2.2.2.2.2.1, kx_a q_number cyI 1914 u.2.2.2.2.2.2.2.2.2.1, kx_3 q_joined j_v j_n u.2.2.2.2.2.2.2.2.2.2.1 u.2.2.2.2.2.2.2.2.2.2.2.1 u.2.2.2.2.2.2.2.2.2.2.2.2.1, kx_a j_v cyI 12 u.2.2.2.2.2.2.2.2.2.2.2.2.2.1, kx_a j_n cyI 12 u.2.2.2.2.2.2.2.2.2.2.2.2.2.2.1, kx_3 h0 a_v a_n u.2.2.2.2.2.2.2.2.2.2.2.2.2.2.2.1 u.2.2.2.2.2.2.2.2.2.2.2.2.2.2.2.2.1 u.2.2.2.2.2.2.2.2.2.2.2.2.2.2.2.2.2.1, kx_a a_v cyI 12 u.2.2.2.2.2.2.2.2.2.2.2.2.2.2.2.2.2.2.1, kx_a a_n cyI 12 u.2.2.2.2.2.2.2.2.2.2.2.2.2.2.2.2.2.2.2.1, (ho, .inl (cyL, 1, .inr (.inl u.2.2.2.2.2.2.2.2.2.2.2.2.2.2.2.2.2.2.2.2.1)))] t.heap ∧ va_K (dC, dI) vwCl [(cyI, .int), (cyL, .long)] t ∧ va_D (va_A [kx_4 m_ q_row q_t t_ h0 k0 w_ z_ slots old, kx_2 q_t q_row q_joined q_from q_to q_size q_lossOf q_lessBy q_value q_number nodes here, kx_0 q_row q_cell len, kx_a q_cell cyI 160 f, kx_a q_from cyI 319 ff, kx_a q_to cyI 319 ft, kx_a q_size cyI 319 fs, kx_a q_lossOf cyI 319 fo, kx_a q_lessBy cyI 319 fe, kx_a q_value cyI 1914 uv, kx_a q_number cyI 1914 un, kx_3 q_joined j_v j_n js jl je, kx_a j_v cyI 12 jv, kx_a j_n cyI 12 jn, kx_3 h0 a_v a_n vs lo le, kx_a a_v cyI 12 fv, kx_a a_n cyI 12 fn, (ho, .inl (cyL, 1, .inr (.inl ol)))] sz) [kx_4 m_ q_row q_t t_ h0 k0 w_ z_ slots u.1, kx_2 q_t q_row q_joined q_from q_to q_size q_lossOf q_lessBy q_value q_number u.2.1 u.2.2.1, kx_0 q_row q_cell len, kx_a q_cell cyI 160 f, kx_a q_from cyI 319 u.2.2.2.1, kx_a q_to cyI 319 u.2.2.2.2.1, kx_a q_size cyI 319 u.2.2.2.2.2.1, kx_a q_lossOf cyI 319 u.2.2.2.2.2.2.1, kx_a q_lessBy cyI 319 u.2.2.2.2.2.2.2.1, kx_a q_value cyI 1914 u.2.2.2.2.2.2.2.2.1, kx_a q_number cyI 1914 u.2.2.2.2.2.2.2.2.2.1, kx_3 q_joined j_v j_n u.2.2.2.2.2.2.2.2.2.2.1 u.2.2.2.2.2.2.2.2.2.2.2.1 u.2.2.2.2.2.2.2.2.2.2.2.2.1, kx_a j_v cyI 12 u.2.2.2.2.2.2.2.2.2.2.2.2.2.1, kx_a j_n cyI 12 u.2.2.2.2.2.2.2.2.2.2.2.2.2.2.1, kx_3 h0 a_v a_n u.2.2.2.2.2.2.2.2.2.2.2.2.2.2.2.1 u.2.2.2.2.2.2.2.2.2.2.2.2.2.2.2.2.1 u.2.2.2.2.2.2.2.2.2.2.2.2.2.2.2.2.2.1, kx_a a_v cyI 12 u.2.2.2.2.2.2.2.2.2.2.2.2.2.2.2.2.2.2.1, kx_a a_n cyI 12 u.2.2.2.2.2.2.2.2.2.2.2.2.2.2.2.2.2.2.2.1, (ho, .inl (cyL, 1, .inr (.inl u.2.2.2.2.2.2.2.2.2.2.2.2.2.2.2.2.2.2.2.2.1)))]) (va_A [kx_4 m_ q_row q_t t_ h0 k0 w_ z_ slots old, kx_2 q_t q_row q_joined q_from q_to q_size q_lossOf q_lessBy q_value q_number nodes here, kx_0 q_row q_cell len, kx_a q_cell cyI 160 f, kx_a q_from cyI 319 ff, kx_a q_to cyI 319 ft, kx_a q_size cyI 319 fs, kx_a q_lossOf cyI 319 fo, kx_a q_lessBy cyI 319 fe, kx_a q_value cyI 1914 uv, kx_a q_number cyI 1914 un, kx_3 q_joined j_v j_n js jl je, kx_a j_v cyI 12 jv, kx_a j_n cyI 12 jn, kx_3 h0 a_v a_n vs lo le, kx_a a_v cyI 12 fv, kx_a a_n cyI 12 fn, (ho, .inl (cyL, 1, .inr (.inl ol)))] sz)) 1 6 (va_A [kx_4 m_ q_row q_t t_ h0 k0 w_ z_ slots old, kx_2 q_t q_row q_joined q_from q_to q_size q_lossOf q_lessBy q_value q_number nodes here, kx_0 q_row q_cell len, kx_a q_cell cyI 160 f, kx_a q_from cyI 319 ff, kx_a q_to cyI 319 ft, kx_a q_size cyI 319 fs, kx_a q_lossOf cyI 319 fo, kx_a q_lessBy cyI 319 fe, kx_a q_value cyI 1914 uv, kx_a q_number cyI 1914 un, kx_3 q_joined j_v j_n js jl je, kx_a j_v cyI 12 jv, kx_a j_n cyI 12 jn, kx_3 h0 a_v a_n vs lo le, kx_a a_v cyI 12 fv, kx_a a_n cyI 12 fn, (ho, .inl (cyL, 1, .inr (.inl ol)))] sz) := by
  refine va_MetW (cc := cL_vote) (maxL := 7) (ret := (some .int)) (hh := [(0, 14, 17, 13)]) (by decide) rfl ?_
  intro p e s m args below meth c s₁ B hml hv
  obtain ⟨rfl, hsz, hP, hK, hD0, hth⟩ := hv
  have hx := B.exec
  have hb := B.bytes
  have hr := B.returns
  have hts := atoms_spec (ws := wsL_vote) B.pre
  have hown : s.vm.findClass RL = some m.cls := findClass_of_methodNamed B.named
  have hlocks := B.notSynchronized
  have htb : c.exceptionTable.toList = tableOf [(0, 14, 17, 13)] := vx_table (x := yL_vote) B (hts (.codeWith yL_vote cL_vote 7 (some .int) [(0, 14, 17, 13)]) List.mem_cons_self)
  subst hsz
  have hD := hD0.self (sz := s.heap.size)
  generalize hAe : va_A [kx_4 m_ q_row q_t t_ h0 k0 w_ z_ slots old, kx_2 q_t q_row q_joined q_from q_to q_size q_lossOf q_lessBy q_value q_number nodes here, kx_0 q_row q_cell len, kx_a q_cell cyI 160 f, kx_a q_from cyI 319 ff, kx_a q_to cyI 319 ft, kx_a q_size cyI 319 fs, kx_a q_lossOf cyI 319 fo, kx_a q_lessBy cyI 319 fe, kx_a q_value cyI 1914 uv, kx_a q_number cyI 1914 un, kx_3 q_joined j_v j_n js jl je, kx_a j_v cyI 12 jv, kx_a j_n cyI 12 jn, kx_3 h0 a_v a_n vs lo le, kx_a a_v cyI 12 fv, kx_a a_n cyI 12 fn, (ho, .inl (cyL, 1, .inr (.inl ol)))] s.heap.size = A at hD hth ⊢
  have hA : ∀ q : Nat, s.heap.size ≤ q → A q := fun q h => by rw [← hAe]; exact Or.inr h
  have hS : va_S A s.heap s.heap [] := va_S.rf
  have hP : va_P (dC, dI) vwCl [kx_4 m_ q_row q_t t_ h0 k0 w_ z_ slots old, kx_2 q_t q_row q_joined q_from q_to q_size q_lossOf q_lessBy q_value q_number nodes here, kx_0 q_row q_cell len, kx_a q_cell cyI 160 f, kx_a q_from cyI 319 ff, kx_a q_to cyI 319 ft, kx_a q_size cyI 319 fs, kx_a q_lossOf cyI 319 fo, kx_a q_lessBy cyI 319 fe, kx_a q_value cyI 1914 uv, kx_a q_number cyI 1914 un, kx_3 q_joined j_v j_n js jl je, kx_a j_v cyI 12 jv, kx_a j_n cyI 12 jn, kx_3 h0 a_v a_n vs lo le, kx_a a_v cyI 12 fv, kx_a a_n cyI 12 fn, (ho, .inl (cyL, 1, .inr (.inl ol)))] s.heap := hP
  have hl := lv_entry ([.ref m_, .int p0, .int p1, .int p2, .int p3, .ref ho]) (n := 7) (Nat.le_of_ble_eq_true rfl)
  rw [lg_entry_eq]
  generalize (lg_sl ([.ref m_, .int p0, .int p1, .int p2, .int p3, .ref ho]) ++ List.replicate (7 - (lg_sl ([.ref m_, .int p0, .int p1, .int p2, .int p3, .ref ho])).length) Slot.unset).toArray = ls at hl ⊢
  have hl : lv_has ls 7 [(0, .ref m_), (1, .int p0), (2, .int p1), (3, .int p2), (4, .int p3), (5, .ref ho)] := hl
  refine lv_aload hx hb dL_vote_0 (lv_at hl 5 rfl) ?_
  refine lv_iconst (v := 0) hx hb dL_vote_2 (by decide) ?_
  refine lv_aload_n hx hb dL_vote_3 rfl (lv_at hl 0 rfl) ?_
  refine lv_iload_n hx hb dL_vote_4 rfl (lv_at hl 1 rfl) ?_
  refine lv_iload_n hx hb dL_vote_5 rfl (lv_at hl 2 rfl) ?_
  refine lv_iload_n hx hb dL_vote_6 rfl (lv_at hl 3 rfl) ?_
  refine lv_iload hx hb dL_vote_7 (lv_at hl 4 rfl) ?_
  have hPc := hP.sub (ws' := [kx_4 m_ q_row q_t t_ h0 k0 w_ z_ slots old, kx_2 q_t q_row q_joined q_from q_to q_size q_lossOf q_lessBy q_value q_number nodes here, kx_0 q_row q_cell len, kx_a q_cell cyI 160 f, kx_a q_from cyI 319 ff, kx_a q_to cyI 319 ft, kx_a q_size cyI 319 fs, kx_a q_lossOf cyI 319 fo, kx_a q_lessBy cyI 319 fe, kx_a q_value cyI 1914 uv, kx_a q_number cyI 1914 un, kx_3 q_joined j_v j_n js jl je, kx_a j_v cyI 12 jv, kx_a j_n cyI 12 jn, kx_3 h0 a_v a_n vs lo le, kx_a a_v cyI 12 fv, kx_a a_n cyI 12 fn]) [0, 1, 2, 3, 4, 5, 6, 7, 8, 9, 10, 11, 12, 13, 14, 15, 16] rfl
  have hKc := hK.sub (tys' := [(cyI, .int)]) [0] rfl
  have hDc := hD.sub (ws' := [kx_4 m_ q_row q_t t_ h0 k0 w_ z_ slots old, kx_2 q_t q_row q_joined q_from q_to q_size q_lossOf q_lessBy q_value q_number nodes here, kx_0 q_row q_cell len, kx_a q_cell cyI 160 f, kx_a q_from cyI 319 ff, kx_a q_to cyI 319 ft, kx_a q_size cyI 319 fs, kx_a q_lossOf cyI 319 fo, kx_a q_lessBy cyI 319 fe, kx_a q_value cyI 1914 uv, kx_a q_number cyI 1914 un, kx_3 q_joined j_v j_n js jl je, kx_a j_v cyI 12 jv, kx_a j_n cyI 12 jn, kx_3 h0 a_v a_n vs lo le, kx_a a_v cyI 12 fv, kx_a a_n cyI 12 fn]) [0, 1, 2, 3, 4, 5, 6, 7, 8, 9, 10, 11, 12, 13, 14, 15, 16] (by decide) rfl
  have hFc := va_free (wc := [kx_4 m_ q_row q_t t_ h0 k0 w_ z_ slots old, kx_2 q_t q_row q_joined q_from q_to q_size q_lossOf q_lessBy q_value q_number nodes here, kx_0 q_row q_cell len, kx_a q_cell cyI 160 f, kx_a q_from cyI 319 ff, kx_a q_to cyI 319 ft, kx_a q_size cyI 319 fs, kx_a q_lossOf cyI 319 fo, kx_a q_lessBy cyI 319 fe, kx_a q_value cyI 1914 uv, kx_a q_number cyI 1914 un, kx_3 q_joined j_v j_n js jl je, kx_a j_v cyI 12 jv, kx_a j_n cyI 12 jn, kx_3 h0 a_v a_n vs lo le, kx_a a_v cyI 12 fv, kx_a a_n cyI 12 fn]) hD hS hA [0, 1, 2, 3, 4, 5, 6, 7, 8, 9, 10, 11, 12, 13, 14, 15, 16] rfl
  refine vx_calli (vx_runV (As := [.int p0, .int p1, .int p2, .int p3]) (rest := [.int 0, .ref ho]) ⟨hx, hb, hml, hown, hts⟩ (c_X4_vote l hl0 dC dI m_ q_row q_t t_ h0 k0 w_ z_ slots old q_joined q_from q_to q_size q_lossOf q_lessBy q_value q_number nodes here q_cell cyI len f ff ft fs fo uv un fe j_v j_n js jl je jv jn a_v a_n vs lo le fv fn p0 p1 p2 p3 s.heap.size a0 a1 s0 l0) (cwV 4 hts gL_vote_X4_vote rfl rfl rfl (by decide +kernel) ⟨Nat.le_of_ble_eq_true rfl, Nat.le_of_ble_eq_true rfl⟩) ⟨fun a U g mk q => by obtain ⟨q0, q1, qP, qK, qD, qT⟩ := q; exact ⟨q0, q1, qP, va_K.moved (u := U) (U := U.calling g mk a) (Vm.Alike.refl U.vm) qK, qD, qT.call g mk a⟩, kx_rc4 hKc hPc (q0 := 0) rfl, fun U hU hW => ⟨rfl, by rw [hU], by rw [hU]; exact hPc, va_K.moved hW.alike hKc, hDc.weaken (fun _ _ _ _ => trivial), hth.from hS hU hW hFc⟩⟩ rfl rfl hl.1 rfl (lv_room (Nat.le_of_ble_eq_true rfl)) dL_vote_9 ⟨Nat.le_of_ble_eq_true rfl, Nat.le_of_ble_eq_true rfl⟩) hS (fun q _ h => hFc q h) hFc (fun q _ h => hFc q h) (fun E ce q9 u t H1 locs ht hvm w_1 hB hz1 hk1 hS hce hcv hcl => ?_) (fun r_1 u t H1 locs ht hvm w_1 hB hz1 hk1 hS => ?_)
  · obtain ⟨o_2, o_3, o_4, o_5, o_6, o_7, o_8, o_9, o_10, o_11, o_12, o_13, o_14, o_15, o_16, o_17, o_18, o_19, o_20, o_21⟩ := u
    dsimp only at w_1 hB
    obtain ⟨hE, hP1, hK1, hD1⟩ := hB
    subst hE
    rw [ht] at hP1
    have hK1 := va_K.moved hvm.symm hK1
    obtain ⟨hP, hD⟩ := va_join (wr := [(ho, .inl (cyL, 1, .inr (.inl ol)))]) (w1 := [kx_4 m_ q_row q_t t_ h0 k0 w_ z_ slots o_2, kx_2 q_t q_row q_joined q_from q_to q_size q_lossOf q_lessBy q_value q_number o_3 o_4, kx_0 q_row q_cell len, kx_a q_cell cyI 160 f, kx_a q_from cyI 319 o_5, kx_a q_to cyI 319 o_6, kx_a q_size cyI 319 o_7, kx_a q_lossOf cyI 319 o_8, kx_a q_lessBy cyI 319 o_9, kx_a q_value cyI 1914 o_10, kx_a q_number cyI 1914 o_11, kx_3 q_joined j_v j_n o_12 o_13 o_14, kx_a j_v cyI 12 o_15, kx_a j_n cyI 12 o_16, kx_3 h0 a_v a_n o_17 o_18 o_19, kx_a a_v cyI 12 o_20, kx_a a_n cyI 12 o_21]) hP hD [0, 1, 2, 3, 4, 5, 6, 7, 8, 9, 10, 11, 12, 13, 14, 15, 16] [17] rfl rfl (by decide) (by decide) hk1 hFc hP1 hD1
    clear hP1 hD1 hK1 hk1 hz1 hFc hDc hPc hKc
    generalize H1 = H at hP hS hce ⊢
    obtain ⟨hP, hD⟩ := kx_re (w2 := [(ho, .inl (cyL, 1, .inr (.inl ol))), kx_4 m_ q_row q_t t_ h0 k0 w_ z_ slots o_2, kx_2 q_t q_row q_joined q_from q_to q_size q_lossOf q_lessBy q_value q_number o_3 o_4, kx_0 q_row q_cell len, kx_a q_cell cyI 160 f, kx_a q_from cyI 319 o_5, kx_a q_to cyI 319 o_6, kx_a q_size cyI 319 o_7, kx_a q_lossOf cyI 319 o_8, kx_a q_lessBy cyI 319 o_9, kx_a q_value cyI 1914 o_10, kx_a q_number cyI 1914 o_11, kx_3 q_joined j_v j_n o_12 o_13 o_14, kx_a j_v cyI 12 o_15, kx_a j_n cyI 12 o_16, kx_3 h0 a_v a_n o_17 o_18 o_19, kx_a a_v cyI 12 o_20, kx_a a_n cyI 12 o_21]) hP hD rfl
    refine vx_catch hown [] ⟨0, 14, 17, 13⟩ [] htb (fun z hz => by cases hz) (by decide) (by decide) (hts (.classLink RL 13 EXN) (by decide +kernel)) (va_Nw.use rfl hth.1.1) hce hcv hcl ?_
    refine W.eq (g2 := F0 m 17 ls [.ref q9]) rfl ?_
    have w_1 : (0 : Int) ≤ 1 ∧ laidP o_2 o_5 o_6 o_3 len ∧ sixes o_7 := w_1
    refine W.widen (k := 1) (n := 6) (Nat.le_of_ble_eq_true rfl) (Nat.le_of_ble_eq_true rfl) ?_
    refine lv_astore (lv' := [(6, .ref q9), (0, .ref m_), (1, .int p0), (2, .int p1), (3, .int p2), (4, .int p3), (5, .ref ho)]) hx hb dL_vote_17 hl (by decide) rfl (fun ls hl => ?_)
    refine lv_iconst (v := 1) hx hb dL_vote_19 (by decide) ?_
    obtain ⟨hP9, hD9⟩ := kx_sub (w2 := [kx_4 m_ q_row q_t t_ h0 k0 w_ z_ slots o_2, kx_2 q_t q_row q_joined q_from q_to q_size q_lossOf q_lessBy q_value q_number o_3 o_4, kx_0 q_row q_cell len, kx_a q_cell cyI 160 f, kx_a q_from cyI 319 o_5, kx_a q_to cyI 319 o_6, kx_a q_size cyI 319 o_7, kx_a q_lossOf cyI 319 o_8, kx_a q_lessBy cyI 319 o_9, kx_a q_value cyI 1914 o_10, kx_a q_number cyI 1914 o_11, kx_3 q_joined j_v j_n o_12 o_13 o_14, kx_a j_v cyI 12 o_15, kx_a j_n cyI 12 o_16, kx_3 h0 a_v a_n o_17 o_18 o_19, kx_a a_v cyI 12 o_20, kx_a a_n cyI 12 o_21, (ho, .inl (cyL, 1, .inr (.inl ol)))]) hP hD [1, 2, 3, 4, 5, 6, 7, 8, 9, 10, 11, 12, 13, 14, 15, 16, 17, 0] (by decide) rfl
    have hK9 := hK
    exact W.iret (v := 1) hx hb hr (hlocks := hlocks) (fun t ht hW => ⟨⟨1, (o_2, o_3, o_4, o_5, o_6, o_7, o_8, o_9, o_10, o_11, o_12, o_13, o_14, o_15, o_16, o_17, o_18, o_19, o_20, o_21, ol, (0 : Int32)), rfl, ⟨Or.inr ⟨rfl, w_1.1⟩, w_1.2⟩, by rw [ht]; exact hP9, va_K.moved hW.alike hK9, hD9⟩, hS.F ht⟩) hS.2.2 dL_vote_20
  · obtain ⟨o_22, o_23, o_24, o_25, o_26, o_27, o_28, o_29, o_30, o_31, o_32, o_33, o_34, o_35, o_36, o_37, o_38, o_39, o_40, o_41⟩ := u
    dsimp only at w_1 hB
    obtain ⟨hP1, hK1, hD1⟩ := hB
    rw [ht] at hP1
    have hK1 := va_K.moved hvm.symm hK1
    obtain ⟨hP, hD⟩ := va_join (wr := [(ho, .inl (cyL, 1, .inr (.inl ol)))]) (w1 := [kx_4 m_ q_row q_t t_ h0 k0 w_ z_ slots o_22, kx_2 q_t q_row q_joined q_from q_to q_size q_lossOf q_lessBy q_value q_number o_23 o_24, kx_0 q_row q_cell len, kx_a q_cell cyI 160 f, kx_a q_from cyI 319 o_25, kx_a q_to cyI 319 o_26, kx_a q_size cyI 319 o_27, kx_a q_lossOf cyI 319 o_28, kx_a q_lessBy cyI 319 o_29, kx_a q_value cyI 1914 o_30, kx_a q_number cyI 1914 o_31, kx_3 q_joined j_v j_n o_32 o_33 o_34, kx_a j_v cyI 12 o_35, kx_a j_n cyI 12 o_36, kx_3 h0 a_v a_n o_37 o_38 o_39, kx_a a_v cyI 12 o_40, kx_a a_n cyI 12 o_41]) hP hD [0, 1, 2, 3, 4, 5, 6, 7, 8, 9, 10, 11, 12, 13, 14, 15, 16] [17] rfl rfl (by decide) (by decide) hk1 hFc hP1 hD1
    clear hP1 hD1 hK1 hk1 hz1 hFc hDc hPc hKc
    generalize H1 = H at hP hS ⊢
    obtain ⟨hP, hD⟩ := kx_re (w2 := [(ho, .inl (cyL, 1, .inr (.inl ol))), kx_4 m_ q_row q_t t_ h0 k0 w_ z_ slots o_22, kx_2 q_t q_row q_joined q_from q_to q_size q_lossOf q_lessBy q_value q_number o_23 o_24, kx_0 q_row q_cell len, kx_a q_cell cyI 160 f, kx_a q_from cyI 319 o_25, kx_a q_to cyI 319 o_26, kx_a q_size cyI 319 o_27, kx_a q_lossOf cyI 319 o_28, kx_a q_lessBy cyI 319 o_29, kx_a q_value cyI 1914 o_30, kx_a q_number cyI 1914 o_31, kx_3 q_joined j_v j_n o_32 o_33 o_34, kx_a j_v cyI 12 o_35, kx_a j_n cyI 12 o_36, kx_3 h0 a_v a_n o_37 o_38 o_39, kx_a a_v cyI 12 o_40, kx_a a_n cyI 12 o_41]) hP hD rfl
    have w_1 : (0 : Int) ≤ 1 ∧ laidP o_22 o_25 o_26 o_23 len ∧ sixes o_27 := w_1
    refine W.widen (k := 1) (n := 6) (Nat.le_of_ble_eq_true rfl) (Nat.le_of_ble_eq_true rfl) ?_
    refine lv_i2l hx hb dL_vote_12 rfl ?_
    refine va_last hx hb hK hP hD hS 0 1 rfl rfl (ki_inl (by decide)) dL_vote_13 (fun H locs hP hD hS => ?_)
    obtain ⟨hP, hD⟩ := kx_re (w2 := [(ho, .inl (cyL, 1, .inr (.inl (vp_updL ol (0 : Int32).toNatClampNeg r_1.toInt64)))), kx_4 m_ q_row q_t t_ h0 k0 w_ z_ slots o_22, kx_2 q_t q_row q_joined q_from q_to q_size q_lossOf q_lessBy q_value q_number o_23 o_24, kx_0 q_row q_cell len, kx_a q_cell cyI 160 f, kx_a q_from cyI 319 o_25, kx_a q_to cyI 319 o_26, kx_a q_size cyI 319 o_27, kx_a q_lossOf cyI 319 o_28, kx_a q_lessBy cyI 319 o_29, kx_a q_value cyI 1914 o_30, kx_a q_number cyI 1914 o_31, kx_3 q_joined j_v j_n o_32 o_33 o_34, kx_a j_v cyI 12 o_35, kx_a j_n cyI 12 o_36, kx_3 h0 a_v a_n o_37 o_38 o_39, kx_a a_v cyI 12 o_40, kx_a a_n cyI 12 o_41]) hP hD rfl
    refine lv_goto (tgt := 21) hx hb dL_vote_14 (by decide) ?_
    refine lv_iconst (v := 0) hx hb dL_vote_21 (by decide) ?_
    obtain ⟨hP9, hD9⟩ := kx_sub (w2 := [kx_4 m_ q_row q_t t_ h0 k0 w_ z_ slots o_22, kx_2 q_t q_row q_joined q_from q_to q_size q_lossOf q_lessBy q_value q_number o_23 o_24, kx_0 q_row q_cell len, kx_a q_cell cyI 160 f, kx_a q_from cyI 319 o_25, kx_a q_to cyI 319 o_26, kx_a q_size cyI 319 o_27, kx_a q_lossOf cyI 319 o_28, kx_a q_lessBy cyI 319 o_29, kx_a q_value cyI 1914 o_30, kx_a q_number cyI 1914 o_31, kx_3 q_joined j_v j_n o_32 o_33 o_34, kx_a j_v cyI 12 o_35, kx_a j_n cyI 12 o_36, kx_3 h0 a_v a_n o_37 o_38 o_39, kx_a a_v cyI 12 o_40, kx_a a_n cyI 12 o_41, (ho, .inl (cyL, 1, .inr (.inl (vp_updL ol (0 : Int32).toNatClampNeg r_1.toInt64))))]) hP hD [1, 2, 3, 4, 5, 6, 7, 8, 9, 10, 11, 12, 13, 14, 15, 16, 17, 0] (by decide) rfl
    have hK9 := hK
    exact W.iret (v := 0) hx hb hr (hlocks := hlocks) (fun t ht hW => ⟨⟨0, (o_22, o_23, o_24, o_25, o_26, o_27, o_28, o_29, o_30, o_31, o_32, o_33, o_34, o_35, o_36, o_37, o_38, o_39, o_40, o_41, (vp_updL ol (0 : Int32).toNatClampNeg r_1.toInt64), r_1), rfl, ⟨Or.inl ⟨rfl, w_1.1, rfl⟩, w_1.2⟩, by rw [ht]; exact hP9, va_K.moved hW.alike hK9, hD9⟩, hS.F ht⟩) hS.2.2 dL_vote_22

set_option maxHeartbeats 4000000 in
set_option maxRecDepth 100000 in
theorem c_L_candidate (l : Launch) (hl0 : l.stackTraces = false) (dC : Nat → ClassId) (dI : Nat → Nat → Nat) (m_ : Nat) (q_row : Nat) (q_t : Nat) (t_ : Nat) (h0 : Nat) (k0 : Nat) (w_ : Nat) (z_ : Nat) (slots : Int32) (old : Int32) (q_joined : Nat) (q_from : Nat) (q_to : Nat) (q_size : Nat) (q_lossOf : Nat) (q_lessBy : Nat) (q_value : Nat) (q_number : Nat) (nodes : Int32) (here : Int32) (q_cell : Nat) (cyI : ClassId) (len : Int32) (f : Nat → Int32) (ff : Nat → Int32) (ft : Nat → Int32) (fs : Nat → Int32) (fo : Nat → Int32) (uv : Nat → Int32) (un : Nat → Int32) (fe : Nat → Int32) (j_v : Nat) (j_n : Nat) (js : Int32) (jl : Int32) (je : Int32) (jv : Nat → Int32) (jn : Nat → Int32) (a_v : Nat) (a_n : Nat) (vs : Int32) (lo : Int32) (le : Int32) (fv : Nat → Int32) (fn : Nat → Int32) (p0 : Int32) (p1 : Int32) (p2 : Int32) (p3 : Int32) (cyL : ClassId) (ho : Nat) (ol : Nat → Int64) (sz : Nat) (a0 : 0 ≤ len.toInt) (a1 : len.toInt ≤ 160) (s0 : sixes fs) (l0 : laidP old ff ft nodes len) : Met l yL_candidate wsL_candidate ({ frames := 9, cells := 1, slots := 6, locals := 405 }) (va_Pc [.ref m_, .int p0, .int p1, .int p2, .int p3, .ref ho] (fun U => U.heap.size = sz ∧ va_P (dC, dI) vwCl [kx_4 m_ q_row q_t t_ h0 k0 w_ z_ slots old, kx_2 q_t q_row q_joined q_from q_to q_size q_lossOf q_lessBy q_value q_number nodes here, kx_0 q_row q_cell len, kx_a q_cell cyI 160 f, kx_a q_from cyI 319 ff, kx_a q_to cyI 319 ft, kx_a q_size cyI 319 fs, kx_a q_lossOf cyI 319 fo, kx_a q_lessBy cyI 319 fe, kx_a q_value cyI 1914 uv, kx_a q_number cyI 1914 un, kx_3 q_joined j_v j_n js jl je, kx_a j_v cyI 12 jv, kx_a j_n cyI 12 jn, kx_3 h0 a_v a_n vs lo le, kx_a a_v cyI 12 fv, kx_a a_n cyI 12 fn, (ho, .inl (cyL, 1, .inr (.inl ol)))] U.heap ∧ va_K (dC, dI) vwCl [(cyI, .int), (cyL, .long)] U ∧ va_D (fun _ => True) [kx_4 m_ q_row q_t t_ h0 k0 w_ z_ slots old, kx_2 q_t q_row q_joined q_from q_to q_size q_lossOf q_lessBy q_value q_number nodes here, kx_0 q_row q_cell len, kx_a q_cell cyI 160 f, kx_a q_from cyI 319 ff, kx_a q_to cyI 319 ft, kx_a q_size cyI 319 fs, kx_a q_lossOf cyI 319 fo, kx_a q_lessBy cyI 319 fe, kx_a q_value cyI 1914 uv, kx_a q_number cyI 1914 un, kx_3 q_joined j_v j_n js jl je, kx_a j_v cyI 12 jv, kx_a j_n cyI 12 jn, kx_3 h0 a_v a_n vs lo le, kx_a a_v cyI 12 fv, kx_a a_n cyI 12 fn, (ho, .inl (cyL, 1, .inr (.inl ol)))] ∧ ki_ThA (va_A [kx_4 m_ q_row q_t t_ h0 k0 w_ z_ slots old, kx_2 q_t q_row q_joined q_from q_to q_size q_lossOf q_lessBy q_value q_number nodes here, kx_0 q_row q_cell len, kx_a q_cell cyI 160 f, kx_a q_from cyI 319 ff, kx_a q_to cyI 319 ft, kx_a q_size cyI 319 fs, kx_a q_lossOf cyI 319 fo, kx_a q_lessBy cyI 319 fe, kx_a q_value cyI 1914 uv, kx_a q_number cyI 1914 un, kx_3 q_joined j_v j_n js jl je, kx_a j_v cyI 12 jv, kx_a j_n cyI 12 jn, kx_3 h0 a_v a_n vs lo le, kx_a a_v cyI 12 fv, kx_a a_n cyI 12 fn, (ho, .inl (cyL, 1, .inr (.inl ol)))] sz) U)) (va_Qi (fun (r : Int32) (u : Int32 × Int32 × Int32 × (Nat → Int32) × (Nat → Int32) × (Nat → Int32) × (Nat → Int32) × (Nat → Int32) × (Nat → Int32) × (Nat → Int32) × Int32 × Int32 × Int32 × (Nat → Int32) × (Nat → Int32) × Int32 × Int32 × Int32 × (Nat → Int32) × (Nat → Int32) × (Nat → Int64) × Int32) => ((r = 0 ∧ ((0 : Int) ≤ 1) ∧ u.2.2.2.2.2.2.2.2.2.2.2.2.2.2.2.2.2.2.2.2.1 = vp_updL ol (0 : Int32).toNatClampNeg u.2.2.2.2.2.2.2.2.2.2.2.2.2.2.2.2.2.2.2.2.2.toInt64) ∨ (r = 1 ∧ ((0 : Int) ≤ 1))) ∧ laidP u.1 u.2.2.2.1 u.2.2.2.2.1 u.2.1 len ∧ sixes u.2.2.2.2.2.1) (fun (u : Int32 × Int32 × Int32 × (Nat → Int32) × (Nat → Int32) × (Nat → Int32) × (Nat → Int32) × (Nat → Int32) × (Nat → Int32) × (Nat → Int32) × Int32 × Int32 × Int32 × (Nat → Int32) × (Nat → Int32) × Int32 × Int32 × Int32 × (Nat → Int32) × (Nat → Int32) × (Nat → Int64) × Int32) (t : State) => va_P (dC, dI) vwCl [kx_4 m_ q_row q_t t_ h0 k0 w_ z_ slots u.1, kx_2 q_t q_row q_joined q_from q_to q_size q_lossOf q_lessBy q_value q_number u.2.1 u.2.2.1, kx_0 q_row q_cell len, kx_a q_cell cyI 160 f, kx_a q_from cyI 319 u.2.2.2.1, kx_a q_to cyI 319 u.2.2.2.2.1, kx_a q_size cyI 319 u.2.2.2.2.2.1, kx_a q_lossOf cyI 319 u.2.2.2.2.2.2.1, kx_a q_lessBy cyI 319 u.2.2.2.2.2.2.2.1, kx_a q_value cyI 1914 u.2.2.2.2.2.2.2.2.1, kx_a q_number cyI 1914 u.2.2.2.2.2.2.2.2.2.1, kx_3 q_joined j_v j_n u.2.2.2.2.2.2.2.2.2.2.1 u.2.2.2.2.2.2.2.2.2.2.2.1 u.2.2.2.2.2.2.2.2.2.2.2.2.1, kx_a j_v cyI 12 u.2.2.2.2.2.2.2.2.2.2.2.2.2.1, kx_a j_n cyI 12 u.2.2.2.2.2.2.2.2.2.2.2.2.2.2.1, kx_3 h0 a_v a_n u.2.2.2.2.2.2.2.2.2.2.2.2.2.2.2.1 u.2.2.2.2.2.2.2.2.2.2.2.2.2.2.2.2.1 u.2.2.2.2.2.2.2.2.2.2.2.2.2.2.2.2.2.1, kx_a a_v cyI 12 u.2.2.2.2.2.2.2.2.2.2.2.2.2.2.2.2.2.2.1, kx_a a_n cyI 12 u.2.2.2.2.2.2.2.2.2.2.2.2.2.2.2.2.2.2.2.1, (ho, .inl (cyL, 1, .inr (.inl u.2.2.2.2.2.2.2.2.2.2.2.2.2.2.2.2.2.2.2.2.1)))] t.heap ∧ va_K (dC, dI) vwCl [(cyI, .int), (cyL, .long)] t ∧ va_D (va_A [kx_4 m_ q_row q_t t_ h0 k0 w_ z_ slots old, kx_2 q_t q_row q_joined q_from q_to q_size q_lossOf q_lessBy q_value q_number nodes here, kx_0 q_row q_cell len, kx_a q_cell cyI 160 f, kx_a q_from cyI 319 ff, kx_a q_to cyI 319 ft, kx_a q_size cyI 319 fs, kx_a q_lossOf cyI 319 fo, kx_a q_lessBy cyI 319 fe, kx_a q_value cyI 1914 uv, kx_a q_number cyI 1914 un, kx_3 q_joined j_v j_n js jl je, kx_a j_v cyI 12 jv, kx_a j_n cyI 12 jn, kx_3 h0 a_v a_n vs lo le, kx_a a_v cyI 12 fv, kx_a a_n cyI 12 fn, (ho, .inl (cyL, 1, .inr (.inl ol)))] sz) [kx_4 m_ q_row q_t t_ h0 k0 w_ z_ slots u.1, kx_2 q_t q_row q_joined q_from q_to q_size q_lossOf q_lessBy q_value q_number u.2.1 u.2.2.1, kx_0 q_row q_cell len, kx_a q_cell cyI 160 f, kx_a q_from cyI 319 u.2.2.2.1, kx_a q_to cyI 319 u.2.2.2.2.1, kx_a q_size cyI 319 u.2.2.2.2.2.1, kx_a q_lossOf cyI 319 u.2.2.2.2.2.2.1, kx_a q_lessBy cyI 319 u.2.2.2.2.2.2.2.1, kx_a q_value cyI 1914 u.2.2.2.2.2.2.2.2.1, kx_a q_number cyI 1914 u.2.2.2.2.2.2.2.2.2.1, kx_3 q_joined j_v j_n u.2.2.2.2.2.2.2.2.2.2.1 u.2.2.2.2.2.2.2.2.2.2.2.1 u.2.2.2.2.2.2.2.2.2.2.2.2.1, kx_a j_v cyI 12 u.2.2.2.2.2.2.2.2.2.2.2.2.2.1, kx_a j_n cyI 12 u.2.2.2.2.2.2.2.2.2.2.2.2.2.2.1, kx_3 h0 a_v a_n u.2.2.2.2.2.2.2.2.2.2.2.2.2.2.2.1 u.2.2.2.2.2.2.2.2.2.2.2.2.2.2.2.2.1 u.2.2.2.2.2.2.2.2.2.2.2.2.2.2.2.2.2.1, kx_a a_v cyI 12 u.2.2.2.2.2.2.2.2.2.2.2.2.2.2.2.2.2.2.1, kx_a a_n cyI 12 u.2.2.2.2.2.2.2.2.2.2.2.2.2.2.2.2.2.2.2.1, (ho, .inl (cyL, 1, .inr (.inl u.2.2.2.2.2.2.2.2.2.2.2.2.2.2.2.2.2.2.2.2.1)))]) (va_A [kx_4 m_ q_row q_t t_ h0 k0 w_ z_ slots old, kx_2 q_t q_row q_joined q_from q_to q_size q_lossOf q_lessBy q_value q_number nodes here, kx_0 q_row q_cell len, kx_a q_cell cyI 160 f, kx_a q_from cyI 319 ff, kx_a q_to cyI 319 ft, kx_a q_size cyI 319 fs, kx_a q_lossOf cyI 319 fo, kx_a q_lessBy cyI 319 fe, kx_a q_value cyI 1914 uv, kx_a q_number cyI 1914 un, kx_3 q_joined j_v j_n js jl je, kx_a j_v cyI 12 jv, kx_a j_n cyI 12 jn, kx_3 h0 a_v a_n vs lo le, kx_a a_v cyI 12 fv, kx_a a_n cyI 12 fn, (ho, .inl (cyL, 1, .inr (.inl ol)))] sz)) 1 6 (va_A [kx_4 m_ q_row q_t t_ h0 k0 w_ z_ slots old, kx_2 q_t q_row q_joined q_from q_to q_size q_lossOf q_lessBy q_value q_number nodes here, kx_0 q_row q_cell len, kx_a q_cell cyI 160 f, kx_a q_from cyI 319 ff, kx_a q_to cyI 319 ft, kx_a q_size cyI 319 fs, kx_a q_lossOf cyI 319 fo, kx_a q_lessBy cyI 319 fe, kx_a q_value cyI 1914 uv, kx_a q_number cyI 1914 un, kx_3 q_joined j_v j_n js jl je, kx_a j_v cyI 12 jv, kx_a j_n cyI 12 jn, kx_3 h0 a_v a_n vs lo le, kx_a a_v cyI 12 fv, kx_a a_n cyI 12 fn, (ho, .inl (cyL, 1, .inr (.inl ol)))] sz) := by
  refine va_MetW (cc := cL_candidate) (maxL := 7) (ret := (some .int)) (hh := [(0, 14, 17, 13)]) (by decide) rfl ?_
  intro p e s m args below meth c s₁ B hml hv
  obtain ⟨rfl, hsz, hP, hK, hD0, hth⟩ := hv
  have hx := B.exec
  have hb := B.bytes
  have hr := B.returns
  have hts := atoms_spec (ws := wsL_candidate) B.pre
  have hown : s.vm.findClass RL = some m.cls := findClass_of_methodNamed B.named
  have hlocks := B.notSynchronized
  have htb : c.exceptionTable.toList = tableOf [(0, 14, 17, 13)] := vx_table (x := yL_candidate) B (hts (.codeWith yL_candidate cL_candidate 7 (some .int) [(0, 14, 17, 13)]) List.mem_cons_self)
  subst hsz
  have hD := hD0.self (sz := s.heap.size)
  generalize hAe : va_A [kx_4 m_ q_row q_t t_ h0 k0 w_ z_ slots old, kx_2 q_t q_row q_joined q_from q_to q_size q_lossOf q_lessBy q_value q_number nodes here, kx_0 q_row q_cell len, kx_a q_cell cyI 160 f, kx_a q_from cyI 319 ff, kx_a q_to cyI 319 ft, kx_a q_size cyI 319 fs, kx_a q_lossOf cyI 319 fo, kx_a q_lessBy cyI 319 fe, kx_a q_value cyI 1914 uv, kx_a q_number cyI 1914 un, kx_3 q_joined j_v j_n js jl je, kx_a j_v cyI 12 jv, kx_a j_n cyI 12 jn, kx_3 h0 a_v a_n vs lo le, kx_a a_v cyI 12 fv, kx_a a_n cyI 12 fn, (ho, .inl (cyL, 1, .inr (.inl ol)))] s.heap.size = A at hD hth ⊢
  have hA : ∀ q : Nat, s.heap.size ≤ q → A q := fun q h => by rw [← hAe]; exact Or.inr h
  have hS : va_S A s.heap s.heap [] := va_S.rf
  have hP : va_P (dC, dI) vwCl [kx_4 m_ q_row q_t t_ h0 k0 w_ z_ slots old, kx_2 q_t q_row q_joined q_from q_to q_size q_lossOf q_lessBy q_value q_number nodes here, kx_0 q_row q_cell len, kx_a q_cell cyI 160 f, kx_a q_from cyI 319 ff, kx_a q_to cyI 319 ft, kx_a q_size cyI 319 fs, kx_a q_lossOf cyI 319 fo, kx_a q_lessBy cyI 319 fe, kx_a q_value cyI 1914 uv, kx_a q_number cyI 1914 un, kx_3 q_joined j_v j_n js jl je, kx_a j_v cyI 12 jv, kx_a j_n cyI 12 jn, kx_3 h0 a_v a_n vs lo le, kx_a a_v cyI 12 fv, kx_a a_n cyI 12 fn, (ho, .inl (cyL, 1, .inr (.inl ol)))] s.heap := hP
  have hl := lv_entry ([.ref m_, .int p0, .int p1, .int p2, .int p3, .ref ho]) (n := 7) (Nat.le_of_ble_eq_true rfl)
  rw [lg_entry_eq]
  generalize (lg_sl ([.ref m_, .int p0, .int p1, .int p2, .int p3, .ref ho]) ++ List.replicate (7 - (lg_sl ([.ref m_, .int p0, .int p1, .int p2, .int p3, .ref ho])).length) Slot.unset).toArray = ls at hl ⊢
  have hl : lv_has ls 7 [(0, .ref m_), (1, .int p0), (2, .int p1), (3, .int p2), (4, .int p3), (5, .ref ho)] := hl
  refine lv_aload hx hb dL_candidate_0 (lv_at hl 5 rfl) ?_
  refine lv_iconst (v := 0) hx hb dL_candidate_2 (by decide) ?_
  refine lv_aload_n hx hb dL_candidate_3 rfl (lv_at hl 0 rfl) ?_
  refine lv_iload_n hx hb dL_candidate_4 rfl (lv_at hl 1 rfl) ?_
  refine lv_iload_n hx hb dL_candidate_5 rfl (lv_at hl 2 rfl) ?_
  refine lv_iload_n hx hb dL_candidate_6 rfl (lv_at hl 3 rfl) ?_
  refine lv_iload hx hb dL_candidate_7 (lv_at hl 4 rfl) ?_
  have hPc := hP.sub (ws' := [kx_4 m_ q_row q_t t_ h0 k0 w_ z_ slots old, kx_2 q_t q_row q_joined q_from q_to q_size q_lossOf q_lessBy q_value q_number nodes here, kx_0 q_row q_cell len, kx_a q_cell cyI 160 f, kx_a q_from cyI 319 ff, kx_a q_to cyI 319 ft, kx_a q_size cyI 319 fs, kx_a q_lossOf cyI 319 fo, kx_a q_lessBy cyI 319 fe, kx_a q_value cyI 1914 uv, kx_a q_number cyI 1914 un, kx_3 q_joined j_v j_n js jl je, kx_a j_v cyI 12 jv, kx_a j_n cyI 12 jn, kx_3 h0 a_v a_n vs lo le, kx_a a_v cyI 12 fv, kx_a a_n cyI 12 fn]) [0, 1, 2, 3, 4, 5, 6, 7, 8, 9, 10, 11, 12, 13, 14, 15, 16] rfl
  have hKc := hK.sub (tys' := [(cyI, .int)]) [0] rfl
  have hDc := hD.sub (ws' := [kx_4 m_ q_row q_t t_ h0 k0 w_ z_ slots old, kx_2 q_t q_row q_joined q_from q_to q_size q_lossOf q_lessBy q_value q_number nodes here, kx_0 q_row q_cell len, kx_a q_cell cyI 160 f, kx_a q_from cyI 319 ff, kx_a q_to cyI 319 ft, kx_a q_size cyI 319 fs, kx_a q_lossOf cyI 319 fo, kx_a q_lessBy cyI 319 fe, kx_a q_value cyI 1914 uv, kx_a q_number cyI 1914 un, kx_3 q_joined j_v j_n js jl je, kx_a j_v cyI 12 jv, kx_a j_n cyI 12 jn, kx_3 h0 a_v a_n vs lo le, kx_a a_v cyI 12 fv, kx_a a_n cyI 12 fn]) [0, 1, 2, 3, 4, 5, 6, 7, 8, 9, 10, 11, 12, 13, 14, 15, 16] (by decide) rfl
  have hFc := va_free (wc := [kx_4 m_ q_row q_t t_ h0 k0 w_ z_ slots old, kx_2 q_t q_row q_joined q_from q_to q_size q_lossOf q_lessBy q_value q_number nodes here, kx_0 q_row q_cell len, kx_a q_cell cyI 160 f, kx_a q_from cyI 319 ff, kx_a q_to cyI 319 ft, kx_a q_size cyI 319 fs, kx_a q_lossOf cyI 319 fo, kx_a q_lessBy cyI 319 fe, kx_a q_value cyI 1914 uv, kx_a q_number cyI 1914 un, kx_3 q_joined j_v j_n js jl je, kx_a j_v cyI 12 jv, kx_a j_n cyI 12 jn, kx_3 h0 a_v a_n vs lo le, kx_a a_v cyI 12 fv, kx_a a_n cyI 12 fn]) hD hS hA [0, 1, 2, 3, 4, 5, 6, 7, 8, 9, 10, 11, 12, 13, 14, 15, 16] rfl
  refine vx_calli (vx_runV (As := [.int p0, .int p1, .int p2, .int p3]) (rest := [.int 0, .ref ho]) ⟨hx, hb, hml, hown, hts⟩ (c_X4_candidate l hl0 dC dI m_ q_row q_t t_ h0 k0 w_ z_ slots old q_joined q_from q_to q_size q_lossOf q_lessBy q_value q_number nodes here q_cell cyI len f ff ft fs fo uv un fe j_v j_n js jl je jv jn a_v a_n vs lo le fv fn p0 p1 p2 p3 s.heap.size a0 a1 s0 l0) (cwV 4 hts gL_candidate_X4_candidate rfl rfl rfl (by decide +kernel) ⟨Nat.le_of_ble_eq_true rfl, Nat.le_of_ble_eq_true rfl⟩) ⟨fun a U g mk q => by obtain ⟨q0, q1, qP, qK, qD, qT⟩ := q; exact ⟨q0, q1, qP, va_K.moved (u := U) (U := U.calling g mk a) (Vm.Alike.refl U.vm) qK, qD, qT.call g mk a⟩, kx_rc4 hKc hPc (q0 := 0) rfl, fun U hU hW => ⟨rfl, by rw [hU], by rw [hU]; exact hPc, va_K.moved hW.alike hKc, hDc.weaken (fun _ _ _ _ => trivial), hth.from hS hU hW hFc⟩⟩ rfl rfl hl.1 rfl (lv_room (Nat.le_of_ble_eq_true rfl)) dL_candidate_9 ⟨Nat.le_of_ble_eq_true rfl, Nat.le_of_ble_eq_true rfl⟩) hS (fun q _ h => hFc q h) hFc (fun q _ h => hFc q h) (fun E ce q9 u t H1 locs ht hvm w_1 hB hz1 hk1 hS hce hcv hcl => ?_) (fun r_1 u t H1 locs ht hvm w_1 hB hz1 hk1 hS => ?_)
  · obtain ⟨o_2, o_3, o_4, o_5, o_6, o_7, o_8, o_9, o_10, o_11, o_12, o_13, o_14, o_15, o_16, o_17, o_18, o_19, o_20, o_21⟩ := u
    dsimp only at w_1 hB
    obtain ⟨hE, hP1, hK1, hD1⟩ := hB
    subst hE
    rw [ht] at hP1
    have hK1 := va_K.moved hvm.symm hK1
    obtain ⟨hP, hD⟩ := va_join (wr := [(ho, .inl (cyL, 1, .inr (.inl ol)))]) (w1 := [kx_4 m_ q_row q_t t_ h0 k0 w_ z_ slots o_2, kx_2 q_t q_row q_joined q_from q_to q_size q_lossOf q_lessBy q_value q_number o_3 o_4, kx_0 q_row q_cell len, kx_a q_cell cyI 160 f, kx_a q_from cyI 319 o_5, kx_a q_to cyI 319 o_6, kx_a q_size cyI 319 o_7, kx_a q_lossOf cyI 319 o_8, kx_a q_lessBy cyI 319 o_9, kx_a q_value cyI 1914 o_10, kx_a q_number cyI 1914 o_11, kx_3 q_joined j_v j_n o_12 o_13 o_14, kx_a j_v cyI 12 o_15, kx_a j_n cyI 12 o_16, kx_3 h0 a_v a_n o_17 o_18 o_19, kx_a a_v cyI 12 o_20, kx_a a_n cyI 12 o_21]) hP hD [0, 1, 2, 3, 4, 5, 6, 7, 8, 9, 10, 11, 12, 13, 14, 15, 16] [17] rfl rfl (by decide) (by decide) hk1 hFc hP1 hD1
    clear hP1 hD1 hK1 hk1 hz1 hFc hDc hPc hKc
    generalize H1 = H at hP hS hce ⊢
    obtain ⟨hP, hD⟩ := kx_re (w2 := [(ho, .inl (cyL, 1, .inr (.inl ol))), kx_4 m_ q_row q_t t_ h0 k0 w_ z_ slots o_2, kx_2 q_t q_row q_joined q_from q_to q_size q_lossOf q_lessBy q_value q_number o_3 o_4, kx_0 q_row q_cell len, kx_a q_cell cyI 160 f, kx_a q_from cyI 319 o_5, kx_a q_to cyI 319 o_6, kx_a q_size cyI 319 o_7, kx_a q_lossOf cyI 319 o_8, kx_a q_lessBy cyI 319 o_9, kx_a q_value cyI 1914 o_10, kx_a q_number cyI 1914 o_11, kx_3 q_joined j_v j_n o_12 o_13 o_14, kx_a j_v cyI 12 o_15, kx_a j_n cyI 12 o_16, kx_3 h0 a_v a_n o_17 o_18 o_19, kx_a a_v cyI 12 o_20, kx_a a_n cyI 12 o_21]) hP hD rfl
    refine vx_catch hown [] ⟨0, 14, 17, 13⟩ [] htb (fun z hz => by cases hz) (by decide) (by decide) (hts (.classLink RL 13 EXN) (by decide +kernel)) (va_Nw.use rfl hth.1.1) hce hcv hcl ?_
    refine W.eq (g2 := F0 m 17 ls [.ref q9]) rfl ?_
    have w_1 : (0 : Int) ≤ 1 ∧ laidP o_2 o_5 o_6 o_3 len ∧ sixes o_7 := w_1
    refine W.widen (k := 1) (n := 6) (Nat.le_of_ble_eq_true rfl) (Nat.le_of_ble_eq_true rfl) ?_
    refine lv_astore (lv' := [(6, .ref q9), (0, .ref m_), (1, .int p0), (2, .int p1), (3, .int p2), (4, .int p3), (5, .ref ho)]) hx hb dL_candidate_17 hl (by decide) rfl (fun ls hl => ?_)
    refine lv_iconst (v := 1) hx hb dL_candidate_19 (by decide) ?_
    obtain ⟨hP9, hD9⟩ := kx_sub (w2 := [kx_4 m_ q_row q_t t_ h0 k0 w_ z_ slots o_2, kx_2 q_t q_row q_joined q_from q_to q_size q_lossOf q_lessBy q_value q_number o_3 o_4, kx_0 q_row q_cell len, kx_a q_cell cyI 160 f, kx_a q_from cyI 319 o_5, kx_a q_to cyI 319 o_6, kx_a q_size cyI 319 o_7, kx_a q_lossOf cyI 319 o_8, kx_a q_lessBy cyI 319 o_9, kx_a q_value cyI 1914 o_10, kx_a q_number cyI 1914 o_11, kx_3 q_joined j_v j_n o_12 o_13 o_14, kx_a j_v cyI 12 o_15, kx_a j_n cyI 12 o_16, kx_3 h0 a_v a_n o_17 o_18 o_19, kx_a a_v cyI 12 o_20, kx_a a_n cyI 12 o_21, (ho, .inl (cyL, 1, .inr (.inl ol)))]) hP hD [1, 2, 3, 4, 5, 6, 7, 8, 9, 10, 11, 12, 13, 14, 15, 16, 17, 0] (by decide) rfl
    have hK9 := hK
    exact W.iret (v := 1) hx hb hr (hlocks := hlocks) (fun t ht hW => ⟨⟨1, (o_2, o_3, o_4, o_5, o_6, o_7, o_8, o_9, o_10, o_11, o_12, o_13, o_14, o_15, o_16, o_17, o_18, o_19, o_20, o_21, ol, (0 : Int32)), rfl, ⟨Or.inr ⟨rfl, w_1.1⟩, w_1.2⟩, by rw [ht]; exact hP9, va_K.moved hW.alike hK9, hD9⟩, hS.F ht⟩) hS.2.2 dL_candidate_20
  · obtain ⟨o_22, o_23, o_24, o_25, o_26, o_27, o_28, o_29, o_30, o_31, o_32, o_33, o_34, o_35, o_36, o_37, o_38, o_39, o_40, o_41⟩ := u
    dsimp only at w_1 hB
    obtain ⟨hP1, hK1, hD1⟩ := hB
    rw [ht] at hP1
    have hK1 := va_K.moved hvm.symm hK1
    obtain ⟨hP, hD⟩ := va_join (wr := [(ho, .inl (cyL, 1, .inr (.inl ol)))]) (w1 := [kx_4 m_ q_row q_t t_ h0 k0 w_ z_ slots o_22, kx_2 q_t q_row q_joined q_from q_to q_size q_lossOf q_lessBy q_value q_number o_23 o_24, kx_0 q_row q_cell len, kx_a q_cell cyI 160 f, kx_a q_from cyI 319 o_25, kx_a q_to cyI 319 o_26, kx_a q_size cyI 319 o_27, kx_a q_lossOf cyI 319 o_28, kx_a q_lessBy cyI 319 o_29, kx_a q_value cyI 1914 o_30, kx_a q_number cyI 1914 o_31, kx_3 q_joined j_v j_n o_32 o_33 o_34, kx_a j_v cyI 12 o_35, kx_a j_n cyI 12 o_36, kx_3 h0 a_v a_n o_37 o_38 o_39, kx_a a_v cyI 12 o_40, kx_a a_n cyI 12 o_41]) hP hD [0, 1, 2, 3, 4, 5, 6, 7, 8, 9, 10, 11, 12, 13, 14, 15, 16] [17] rfl rfl (by decide) (by decide) hk1 hFc hP1 hD1
    clear hP1 hD1 hK1 hk1 hz1 hFc hDc hPc hKc
    generalize H1 = H at hP hS ⊢
    obtain ⟨hP, hD⟩ := kx_re (w2 := [(ho, .inl (cyL, 1, .inr (.inl ol))), kx_4 m_ q_row q_t t_ h0 k0 w_ z_ slots o_22, kx_2 q_t q_row q_joined q_from q_to q_size q_lossOf q_lessBy q_value q_number o_23 o_24, kx_0 q_row q_cell len, kx_a q_cell cyI 160 f, kx_a q_from cyI 319 o_25, kx_a q_to cyI 319 o_26, kx_a q_size cyI 319 o_27, kx_a q_lossOf cyI 319 o_28, kx_a q_lessBy cyI 319 o_29, kx_a q_value cyI 1914 o_30, kx_a q_number cyI 1914 o_31, kx_3 q_joined j_v j_n o_32 o_33 o_34, kx_a j_v cyI 12 o_35, kx_a j_n cyI 12 o_36, kx_3 h0 a_v a_n o_37 o_38 o_39, kx_a a_v cyI 12 o_40, kx_a a_n cyI 12 o_41]) hP hD rfl
    have w_1 : (0 : Int) ≤ 1 ∧ laidP o_22 o_25 o_26 o_23 len ∧ sixes o_27 := w_1
    refine W.widen (k := 1) (n := 6) (Nat.le_of_ble_eq_true rfl) (Nat.le_of_ble_eq_true rfl) ?_
    refine lv_i2l hx hb dL_candidate_12 rfl ?_
    refine va_last hx hb hK hP hD hS 0 1 rfl rfl (ki_inl (by decide)) dL_candidate_13 (fun H locs hP hD hS => ?_)
    obtain ⟨hP, hD⟩ := kx_re (w2 := [(ho, .inl (cyL, 1, .inr (.inl (vp_updL ol (0 : Int32).toNatClampNeg r_1.toInt64)))), kx_4 m_ q_row q_t t_ h0 k0 w_ z_ slots o_22, kx_2 q_t q_row q_joined q_from q_to q_size q_lossOf q_lessBy q_value q_number o_23 o_24, kx_0 q_row q_cell len, kx_a q_cell cyI 160 f, kx_a q_from cyI 319 o_25, kx_a q_to cyI 319 o_26, kx_a q_size cyI 319 o_27, kx_a q_lossOf cyI 319 o_28, kx_a q_lessBy cyI 319 o_29, kx_a q_value cyI 1914 o_30, kx_a q_number cyI 1914 o_31, kx_3 q_joined j_v j_n o_32 o_33 o_34, kx_a j_v cyI 12 o_35, kx_a j_n cyI 12 o_36, kx_3 h0 a_v a_n o_37 o_38 o_39, kx_a a_v cyI 12 o_40, kx_a a_n cyI 12 o_41]) hP hD rfl
    refine lv_goto (tgt := 21) hx hb dL_candidate_14 (by decide) ?_
    refine lv_iconst (v := 0) hx hb dL_candidate_21 (by decide) ?_
    obtain ⟨hP9, hD9⟩ := kx_sub (w2 := [kx_4 m_ q_row q_t t_ h0 k0 w_ z_ slots o_22, kx_2 q_t q_row q_joined q_from q_to q_size q_lossOf q_lessBy q_value q_number o_23 o_24, kx_0 q_row q_cell len, kx_a q_cell cyI 160 f, kx_a q_from cyI 319 o_25, kx_a q_to cyI 319 o_26, kx_a q_size cyI 319 o_27, kx_a q_lossOf cyI 319 o_28, kx_a q_lessBy cyI 319 o_29, kx_a q_value cyI 1914 o_30, kx_a q_number cyI 1914 o_31, kx_3 q_joined j_v j_n o_32 o_33 o_34, kx_a j_v cyI 12 o_35, kx_a j_n cyI 12 o_36, kx_3 h0 a_v a_n o_37 o_38 o_39, kx_a a_v cyI 12 o_40, kx_a a_n cyI 12 o_41, (ho, .inl (cyL, 1, .inr (.inl (vp_updL ol (0 : Int32).toNatClampNeg r_1.toInt64))))]) hP hD [1, 2, 3, 4, 5, 6, 7, 8, 9, 10, 11, 12, 13, 14, 15, 16, 17, 0] (by decide) rfl
    have hK9 := hK
    exact W.iret (v := 0) hx hb hr (hlocks := hlocks) (fun t ht hW => ⟨⟨0, (o_22, o_23, o_24, o_25, o_26, o_27, o_28, o_29, o_30, o_31, o_32, o_33, o_34, o_35, o_36, o_37, o_38, o_39, o_40, o_41, (vp_updL ol (0 : Int32).toNatClampNeg r_1.toInt64), r_1), rfl, ⟨Or.inl ⟨rfl, w_1.1, rfl⟩, w_1.2⟩, by rw [ht]; exact hP9, va_K.moved hW.alike hK9, hD9⟩, hS.F ht⟩) hS.2.2 dL_candidate_22

set_option maxHeartbeats 4000000 in
set_option maxRecDepth 100000 in
theorem c_L_heavyAt (l : Launch) (hl0 : l.stackTraces = false) (dC : Nat → ClassId) (dI : Nat → Nat → Nat) (m_ : Nat) (q_row : Nat) (q_t : Nat) (t_ : Nat) (h0 : Nat) (k0 : Nat) (w_ : Nat) (z_ : Nat) (slots : Int32) (old : Int32) (q_joined : Nat) (q_from : Nat) (q_to : Nat) (q_size : Nat) (q_lossOf : Nat) (q_lessBy : Nat) (q_value : Nat) (q_number : Nat) (nodes : Int32) (here : Int32) (q_cell : Nat) (cyI : ClassId) (len : Int32) (f : Nat → Int32) (ff : Nat → Int32) (ft : Nat → Int32) (fs : Nat → Int32) (fo : Nat → Int32) (uv : Nat → Int32) (un : Nat → Int32) (fe : Nat → Int32) (j_v : Nat) (j_n : Nat) (js : Int32) (jl : Int32) (je : Int32) (jv : Nat → Int32) (jn : Nat → Int32) (a_v : Nat) (a_n : Nat) (vs : Int32) (lo : Int32) (le : Int32) (fv : Nat → Int32) (fn : Nat → Int32) (p0 : Int32) (p1 : Int32) (p2 : Int32) (p3 : Int32) (p4 : Int32) (p5 : Int32) (cyL : ClassId) (ho : Nat) (ol : Nat → Int64) (sz : Nat) (a0 : 0 ≤ len.toInt) (a1 : len.toInt ≤ 160) (s0 : sixes fs) (l0 : laidP old ff ft nodes len) : Met l yL_heavyAt wsL_heavyAt ({ frames := 9, cells := 1, slots := 6, locals := 405 }) (va_Pc [.ref m_, .int p0, .int p1, .int p2, .int p3, .int p4, .int p5, .ref ho] (fun U => U.heap.size = sz ∧ va_P (dC, dI) vwCl [kx_4 m_ q_row q_t t_ h0 k0 w_ z_ slots old, kx_2 q_t q_row q_joined q_from q_to q_size q_lossOf q_lessBy q_value q_number nodes here, kx_0 q_row q_cell len, kx_a q_cell cyI 160 f, kx_a q_from cyI 319 ff, kx_a q_to cyI 319 ft, kx_a q_size cyI 319 fs, kx_a q_lossOf cyI 319 fo, kx_a q_lessBy cyI 319 fe, kx_a q_value cyI 1914 uv, kx_a q_number cyI 1914 un, kx_3 q_joined j_v j_n js jl je, kx_a j_v cyI 12 jv, kx_a j_n cyI 12 jn, kx_3 h0 a_v a_n vs lo le, kx_a a_v cyI 12 fv, kx_a a_n cyI 12 fn, (ho, .inl (cyL, 1, .inr (.inl ol)))] U.heap ∧ va_K (dC, dI) vwCl [(cyI, .int), (cyL, .long)] U ∧ va_D (fun _ => True) [kx_4 m_ q_row q_t t_ h0 k0 w_ z_ slots old, kx_2 q_t q_row q_joined q_from q_to q_size q_lossOf q_lessBy q_value q_number nodes here, kx_0 q_row q_cell len, kx_a q_cell cyI 160 f, kx_a q_from cyI 319 ff, kx_a q_to cyI 319 ft, kx_a q_size cyI 319 fs, kx_a q_lossOf cyI 319 fo, kx_a q_lessBy cyI 319 fe, kx_a q_value cyI 1914 uv, kx_a q_number cyI 1914 un, kx_3 q_joined j_v j_n js jl je, kx_a j_v cyI 12 jv, kx_a j_n cyI 12 jn, kx_3 h0 a_v a_n vs lo le, kx_a a_v cyI 12 fv, kx_a a_n cyI 12 fn, (ho, .inl (cyL, 1, .inr (.inl ol)))] ∧ va_Nw (.methodLinkNest RX3 42 yX4_isHeavy RX4) U ∧ ki_ThA (va_A [kx_4 m_ q_row q_t t_ h0 k0 w_ z_ slots old, kx_2 q_t q_row q_joined q_from q_to q_size q_lossOf q_lessBy q_value q_number nodes here, kx_0 q_row q_cell len, kx_a q_cell cyI 160 f, kx_a q_from cyI 319 ff, kx_a q_to cyI 319 ft, kx_a q_size cyI 319 fs, kx_a q_lossOf cyI 319 fo, kx_a q_lessBy cyI 319 fe, kx_a q_value cyI 1914 uv, kx_a q_number cyI 1914 un, kx_3 q_joined j_v j_n js jl je, kx_a j_v cyI 12 jv, kx_a j_n cyI 12 jn, kx_3 h0 a_v a_n vs lo le, kx_a a_v cyI 12 fv, kx_a a_n cyI 12 fn, (ho, .inl (cyL, 1, .inr (.inl ol)))] sz) U)) (va_Qi (fun (r : Int32) (u : Int32 × Int32 × Int32 × (Nat → Int32) × (Nat → Int32) × (Nat → Int32) × (Nat → Int32) × (Nat → Int32) × (Nat → Int32) × (Nat → Int32) × Int32 × Int32 × Int32 × (Nat → Int32) × (Nat → Int32) × Int32 × Int32 × Int32 × (Nat → Int32) × (Nat → Int32) × (Nat → Int64) × Int32) => ((r = 0 ∧ ((0 : Int) ≤ 1) ∧ u.2.2.2.2.2.2.2.2.2.2.2.2.2.2.2.2.2.2.2.2.1 = vp_updL ol (0 : Int32).toNatClampNeg u.2.2.2.2.2.2.2.2.2.2.2.2.2.2.2.2.2.2.2.2.2.toInt64) ∨ (r = 1 ∧ ((0 : Int) ≤ 1))) ∧ laidP u.1 u.2.2.2.1 u.2.2.2.2.1 u.2.1 len ∧ sixes u.2.2.2.2.2.1) (fun (u : Int32 × Int32 × Int32 × (Nat → Int32) × (Nat → Int32) × (Nat → Int32) × (Nat → Int32) × (Nat → Int32) × (Nat → Int32) × (Nat → Int32) × Int32 × Int32 × Int32 × (Nat → Int32) × (Nat → Int32) × Int32 × Int32 × Int32 × (Nat → Int32) × (Nat → Int32) × (Nat → Int64) × Int32) (t : State) => va_P (dC, dI) vwCl [kx_4 m_ q_row q_t t_ h0 k0 w_ z_ slots u.1, kx_2 q_t q_row q_joined q_from q_to q_size q_lossOf q_lessBy q_value q_number u.2.1 u.2.2.1, kx_0 q_row q_cell len, kx_a q_cell cyI 160 f, kx_a q_from cyI 319 u.2.2.2.1, kx_a q_to cyI 319 u.2.2.2.2.1, kx_a q_size cyI 319 u.2.2.2.2.2.1, kx_a q_lossOf cyI 319 u.2.2.2.2.2.2.1, kx_a q_lessBy cyI 319 u.2.2.2.2.2.2.2.1, kx_a q_value cyI 1914 u.2.2.2.2.2.2.2.2.1, kx_a q_number cyI 1914 u.2.2.2.2.2.2.2.2.2.1, kx_3 q_joined j_v j_n u.2.2.2.2.2.2.2.2.2.2.1 u.2.2.2.2.2.2.2.2.2.2.2.1 u.2.2.2.2.2.2.2.2.2.2.2.2.1, kx_a j_v cyI 12 u.2.2.2.2.2.2.2.2.2.2.2.2.2.1, kx_a j_n cyI 12 u.2.2.2.2.2.2.2.2.2.2.2.2.2.2.1, kx_3 h0 a_v a_n u.2.2.2.2.2.2.2.2.2.2.2.2.2.2.2.1 u.2.2.2.2.2.2.2.2.2.2.2.2.2.2.2.2.1 u.2.2.2.2.2.2.2.2.2.2.2.2.2.2.2.2.2.1, kx_a a_v cyI 12 u.2.2.2.2.2.2.2.2.2.2.2.2.2.2.2.2.2.2.1, kx_a a_n cyI 12 u.2.2.2.2.2.2.2.2.2.2.2.2.2.2.2.2.2.2.2.1, (ho, .inl (cyL, 1, .inr (.inl u.2.2.2.2.2.2.2.2.2.2.2.2.2.2.2.2.2.2.2.2.1)))] t.heap ∧ va_K (dC, dI) vwCl [(cyI, .int), (cyL, .long)] t ∧ va_D (va_A [kx_4 m_ q_row q_t t_ h0 k0 w_ z_ slots old, kx_2 q_t q_row q_joined q_from q_to q_size q_lossOf q_lessBy q_value q_number nodes here, kx_0 q_row q_cell len, kx_a q_cell cyI 160 f, kx_a q_from cyI 319 ff, kx_a q_to cyI 319 ft, kx_a q_size cyI 319 fs, kx_a q_lossOf cyI 319 fo, kx_a q_lessBy cyI 319 fe, kx_a q_value cyI 1914 uv, kx_a q_number cyI 1914 un, kx_3 q_joined j_v j_n js jl je, kx_a j_v cyI 12 jv, kx_a j_n cyI 12 jn, kx_3 h0 a_v a_n vs lo le, kx_a a_v cyI 12 fv, kx_a a_n cyI 12 fn, (ho, .inl (cyL, 1, .inr (.inl ol)))] sz) [kx_4 m_ q_row q_t t_ h0 k0 w_ z_ slots u.1, kx_2 q_t q_row q_joined q_from q_to q_size q_lossOf q_lessBy q_value q_number u.2.1 u.2.2.1, kx_0 q_row q_cell len, kx_a q_cell cyI 160 f, kx_a q_from cyI 319 u.2.2.2.1, kx_a q_to cyI 319 u.2.2.2.2.1, kx_a q_size cyI 319 u.2.2.2.2.2.1, kx_a q_lossOf cyI 319 u.2.2.2.2.2.2.1, kx_a q_lessBy cyI 319 u.2.2.2.2.2.2.2.1, kx_a q_value cyI 1914 u.2.2.2.2.2.2.2.2.1, kx_a q_number cyI 1914 u.2.2.2.2.2.2.2.2.2.1, kx_3 q_joined j_v j_n u.2.2.2.2.2.2.2.2.2.2.1 u.2.2.2.2.2.2.2.2.2.2.2.1 u.2.2.2.2.2.2.2.2.2.2.2.2.1, kx_a j_v cyI 12 u.2.2.2.2.2.2.2.2.2.2.2.2.2.1, kx_a j_n cyI 12 u.2.2.2.2.2.2.2.2.2.2.2.2.2.2.1, kx_3 h0 a_v a_n u.2.2.2.2.2.2.2.2.2.2.2.2.2.2.2.1 u.2.2.2.2.2.2.2.2.2.2.2.2.2.2.2.2.1 u.2.2.2.2.2.2.2.2.2.2.2.2.2.2.2.2.2.1, kx_a a_v cyI 12 u.2.2.2.2.2.2.2.2.2.2.2.2.2.2.2.2.2.2.1, kx_a a_n cyI 12 u.2.2.2.2.2.2.2.2.2.2.2.2.2.2.2.2.2.2.2.1, (ho, .inl (cyL, 1, .inr (.inl u.2.2.2.2.2.2.2.2.2.2.2.2.2.2.2.2.2.2.2.2.1)))]) (va_A [kx_4 m_ q_row q_t t_ h0 k0 w_ z_ slots old, kx_2 q_t q_row q_joined q_from q_to q_size q_lossOf q_lessBy q_value q_number nodes here, kx_0 q_row q_cell len, kx_a q_cell cyI 160 f, kx_a q_from cyI 319 ff, kx_a q_to cyI 319 ft, kx_a q_size cyI 319 fs, kx_a q_lossOf cyI 319 fo, kx_a q_lessBy cyI 319 fe, kx_a q_value cyI 1914 uv, kx_a q_number cyI 1914 un, kx_3 q_joined j_v j_n js jl je, kx_a j_v cyI 12 jv, kx_a j_n cyI 12 jn, kx_3 h0 a_v a_n vs lo le, kx_a a_v cyI 12 fv, kx_a a_n cyI 12 fn, (ho, .inl (cyL, 1, .inr (.inl ol)))] sz)) 1 6 (va_A [kx_4 m_ q_row q_t t_ h0 k0 w_ z_ slots old, kx_2 q_t q_row q_joined q_from q_to q_size q_lossOf q_lessBy q_value q_number nodes here, kx_0 q_row q_cell len, kx_a q_cell cyI 160 f, kx_a q_from cyI 319 ff, kx_a q_to cyI 319 ft, kx_a q_size cyI 319 fs, kx_a q_lossOf cyI 319 fo, kx_a q_lessBy cyI 319 fe, kx_a q_value cyI 1914 uv, kx_a q_number cyI 1914 un, kx_3 q_joined j_v j_n js jl je, kx_a j_v cyI 12 jv, kx_a j_n cyI 12 jn, kx_3 h0 a_v a_n vs lo le, kx_a a_v cyI 12 fv, kx_a a_n cyI 12 fn, (ho, .inl (cyL, 1, .inr (.inl ol)))] sz) := by
  refine va_MetW (cc := cL_heavyAt) (maxL := 9) (ret := (some .int)) (hh := [(0, 18, 21, 13)]) (by decide) rfl ?_
  intro p e s m args below meth c s₁ B hml hv
  obtain ⟨rfl, hsz, hP, hK, hD0, hN0, hth⟩ := hv
  have hx := B.exec
  have hb := B.bytes
  have hr := B.returns
  have hts := atoms_spec (ws := wsL_heavyAt) B.pre
  have hown : s.vm.findClass RL = some m.cls := findClass_of_methodNamed B.named
  have hlocks := B.notSynchronized
  have htb : c.exceptionTable.toList = tableOf [(0, 18, 21, 13)] := vx_table (x := yL_heavyAt) B (hts (.codeWith yL_heavyAt cL_heavyAt 9 (some .int) [(0, 18, 21, 13)]) List.mem_cons_self)
  subst hsz
  have hD := hD0.self (sz := s.heap.size)
  generalize hAe : va_A [kx_4 m_ q_row q_t t_ h0 k0 w_ z_ slots old, kx_2 q_t q_row q_joined q_from q_to q_size q_lossOf q_lessBy q_value q_number nodes here, kx_0 q_row q_cell len, kx_a q_cell cyI 160 f, kx_a q_from cyI 319 ff, kx_a q_to cyI 319 ft, kx_a q_size cyI 319 fs, kx_a q_lossOf cyI 319 fo, kx_a q_lessBy cyI 319 fe, kx_a q_value cyI 1914 uv, kx_a q_number cyI 1914 un, kx_3 q_joined j_v j_n js jl je, kx_a j_v cyI 12 jv, kx_a j_n cyI 12 jn, kx_3 h0 a_v a_n vs lo le, kx_a a_v cyI 12 fv, kx_a a_n cyI 12 fn, (ho, .inl (cyL, 1, .inr (.inl ol)))] s.heap.size = A at hD hth ⊢
  have hA : ∀ q : Nat, s.heap.size ≤ q → A q := fun q h => by rw [← hAe]; exact Or.inr h
  have hS : va_S A s.heap s.heap [] := va_S.rf
  have hP : va_P (dC, dI) vwCl [kx_4 m_ q_row q_t t_ h0 k0 w_ z_ slots old, kx_2 q_t q_row q_joined q_from q_to q_size q_lossOf q_lessBy q_value q_number nodes here, kx_0 q_row q_cell len, kx_a q_cell cyI 160 f, kx_a q_from cyI 319 ff, kx_a q_to cyI 319 ft, kx_a q_size cyI 319 fs, kx_a q_lossOf cyI 319 fo, kx_a q_lessBy cyI 319 fe, kx_a q_value cyI 1914 uv, kx_a q_number cyI 1914 un, kx_3 q_joined j_v j_n js jl je, kx_a j_v cyI 12 jv, kx_a j_n cyI 12 jn, kx_3 h0 a_v a_n vs lo le, kx_a a_v cyI 12 fv, kx_a a_n cyI 12 fn, (ho, .inl (cyL, 1, .inr (.inl ol)))] s.heap := hP
  have hl := lv_entry ([.ref m_, .int p0, .int p1, .int p2, .int p3, .int p4, .int p5, .ref ho]) (n := 9) (Nat.le_of_ble_eq_true rfl)
  rw [lg_entry_eq]
  generalize (lg_sl ([.ref m_, .int p0, .int p1, .int p2, .int p3, .int p4, .int p5, .ref ho]) ++ List.replicate (9 - (lg_sl ([.ref m_, .int p0, .int p1, .int p2, .int p3, .int p4, .int p5, .ref ho])).length) Slot.unset).toArray = ls at hl ⊢
  have hl : lv_has ls 9 [(0, .ref m_), (1, .int p0), (2, .int p1), (3, .int p2), (4, .int p3), (5, .int p4), (6, .int p5), (7, .ref ho)] := hl
  refine lv_aload hx hb dL_heavyAt_0 (lv_at hl 7 rfl) ?_
  refine lv_iconst (v := 0) hx hb dL_heavyAt_2 (by decide) ?_
  refine lv_aload_n hx hb dL_heavyAt_3 rfl (lv_at hl 0 rfl) ?_
  refine lv_iload_n hx hb dL_heavyAt_4 rfl (lv_at hl 1 rfl) ?_
  refine lv_iload_n hx hb dL_heavyAt_5 rfl (lv_at hl 2 rfl) ?_
  refine lv_iload_n hx hb dL_heavyAt_6 rfl (lv_at hl 3 rfl) ?_
  refine lv_iload hx hb dL_heavyAt_7 (lv_at hl 4 rfl) ?_
  refine lv_iload hx hb dL_heavyAt_9 (lv_at hl 5 rfl) ?_
  refine lv_iload hx hb dL_heavyAt_11 (lv_at hl 6 rfl) ?_
  have hPc := hP.sub (ws' := [kx_4 m_ q_row q_t t_ h0 k0 w_ z_ slots old, kx_2 q_t q_row q_joined q_from q_to q_size q_lossOf q_lessBy q_value q_number nodes here, kx_0 q_row q_cell len, kx_a q_cell cyI 160 f, kx_a q_from cyI 319 ff, kx_a q_to cyI 319 ft, kx_a q_size cyI 319 fs, kx_a q_lossOf cyI 319 fo, kx_a q_lessBy cyI 319 fe, kx_a q_value cyI 1914 uv, kx_a q_number cyI 1914 un, kx_3 q_joined j_v j_n js jl je, kx_a j_v cyI 12 jv, kx_a j_n cyI 12 jn, kx_3 h0 a_v a_n vs lo le, kx_a a_v cyI 12 fv, kx_a a_n cyI 12 fn]) [0, 1, 2, 3, 4, 5, 6, 7, 8, 9, 10, 11, 12, 13, 14, 15, 16] rfl
  have hKc := hK.sub (tys' := [(cyI, .int)]) [0] rfl
  have hDc := hD.sub (ws' := [kx_4 m_ q_row q_t t_ h0 k0 w_ z_ slots old, kx_2 q_t q_row q_joined q_from q_to q_size q_lossOf q_lessBy q_value q_number nodes here, kx_0 q_row q_cell len, kx_a q_cell cyI 160 f, kx_a q_from cyI 319 ff, kx_a q_to cyI 319 ft, kx_a q_size cyI 319 fs, kx_a q_lossOf cyI 319 fo, kx_a q_lessBy cyI 319 fe, kx_a q_value cyI 1914 uv, kx_a q_number cyI 1914 un, kx_3 q_joined j_v j_n js jl je, kx_a j_v cyI 12 jv, kx_a j_n cyI 12 jn, kx_3 h0 a_v a_n vs lo le, kx_a a_v cyI 12 fv, kx_a a_n cyI 12 fn]) [0, 1, 2, 3, 4, 5, 6, 7, 8, 9, 10, 11, 12, 13, 14, 15, 16] (by decide) rfl
  have hFc := va_free (wc := [kx_4 m_ q_row q_t t_ h0 k0 w_ z_ slots old, kx_2 q_t q_row q_joined q_from q_to q_size q_lossOf q_lessBy q_value q_number nodes here, kx_0 q_row q_cell len, kx_a q_cell cyI 160 f, kx_a q_from cyI 319 ff, kx_a q_to cyI 319 ft, kx_a q_size cyI 319 fs, kx_a q_lossOf cyI 319 fo, kx_a q_lessBy cyI 319 fe, kx_a q_value cyI 1914 uv, kx_a q_number cyI 1914 un, kx_3 q_joined j_v j_n js jl je, kx_a j_v cyI 12 jv, kx_a j_n cyI 12 jn, kx_3 h0 a_v a_n vs lo le, kx_a a_v cyI 12 fv, kx_a a_n cyI 12 fn]) hD hS hA [0, 1, 2, 3, 4, 5, 6, 7, 8, 9, 10, 11, 12, 13, 14, 15, 16] rfl
  refine vx_calli (vx_runV (As := [.int p0, .int p1, .int p2, .int p3, .int p4, .int p5]) (rest := [.int 0, .ref ho]) ⟨hx, hb, hml, hown, hts⟩ (c_X4_heavyAt l hl0 dC dI m_ q_row q_t t_ h0 k0 w_ z_ slots old q_joined q_from q_to q_size q_lossOf q_lessBy q_value q_number nodes here q_cell cyI len f ff ft fs fo uv un fe j_v j_n js jl je jv jn a_v a_n vs lo le fv fn p0 p1 p2 p3 p4 p5 s.heap.size a0 a1 s0 l0) (cwV 6 hts gL_heavyAt_X4_heavyAt rfl rfl rfl (by decide +kernel) ⟨Nat.le_of_ble_eq_true rfl, Nat.le_of_ble_eq_true rfl⟩) ⟨fun a U g mk q => by obtain ⟨q0, q1, qP, qK, qD, qn0, qT⟩ := q; exact ⟨q0, q1, qP, va_K.moved (u := U) (U := U.calling g mk a) (Vm.Alike.refl U.vm) qK, qD, va_Nw.same (u := U) (U := U.calling g mk a) rfl rfl qn0, qT.call g mk a⟩, kx_rc4 hKc hPc (q0 := 0) rfl, fun U hU hW => ⟨rfl, by rw [hU], by rw [hU]; exact hPc, va_K.moved hW.alike hKc, hDc.weaken (fun _ _ _ _ => trivial), va_Nw.warmM hW hN0, hth.from hS hU hW hFc⟩⟩ rfl rfl hl.1 rfl (lv_room (Nat.le_of_ble_eq_true rfl)) dL_heavyAt_13 ⟨Nat.le_of_ble_eq_true rfl, Nat.le_of_ble_eq_true rfl⟩) hS (fun q _ h => hFc q h) hFc (fun q _ h => hFc q h) (fun E ce q9 u t H1 locs ht hvm w_1 hB hz1 hk1 hS hce hcv hcl => ?_) (fun r_1 u t H1 locs ht hvm w_1 hB hz1 hk1 hS => ?_)
  · obtain ⟨o_2, o_3, o_4, o_5, o_6, o_7, o_8, o_9, o_10, o_11, o_12, o_13, o_14, o_15, o_16, o_17, o_18, o_19, o_20, o_21⟩ := u
    dsimp only at w_1 hB
    obtain ⟨hE, hP1, hK1, hD1⟩ := hB
    subst hE
    rw [ht] at hP1
    have hK1 := va_K.moved hvm.symm hK1
    obtain ⟨hP, hD⟩ := va_join (wr := [(ho, .inl (cyL, 1, .inr (.inl ol)))]) (w1 := [kx_4 m_ q_row q_t t_ h0 k0 w_ z_ slots o_2, kx_2 q_t q_row q_joined q_from q_to q_size q_lossOf q_lessBy q_value q_number o_3 o_4, kx_0 q_row q_cell len, kx_a q_cell cyI 160 f, kx_a q_from cyI 319 o_5, kx_a q_to cyI 319 o_6, kx_a q_size cyI 319 o_7, kx_a q_lossOf cyI 319 o_8, kx_a q_lessBy cyI 319 o_9, kx_a q_value cyI 1914 o_10, kx_a q_number cyI 1914 o_11, kx_3 q_joined j_v j_n o_12 o_13 o_14, kx_a j_v cyI 12 o_15, kx_a j_n cyI 12 o_16, kx_3 h0 a_v a_n o_17 o_18 o_19, kx_a a_v cyI 12 o_20, kx_a a_n cyI 12 o_21]) hP hD [0, 1, 2, 3, 4, 5, 6, 7, 8, 9, 10, 11, 12, 13, 14, 15, 16] [17] rfl rfl (by decide) (by decide) hk1 hFc hP1 hD1
    clear hP1 hD1 hK1 hk1 hz1 hFc hDc hPc hKc
    generalize H1 = H at hP hS hce ⊢
    obtain ⟨hP, hD⟩ := kx_re (w2 := [(ho, .inl (cyL, 1, .inr (.inl ol))), kx_4 m_ q_row q_t t_ h0 k0 w_ z_ slots o_2, kx_2 q_t q_row q_joined q_from q_to q_size q_lossOf q_lessBy q_value q_number o_3 o_4, kx_0 q_row q_cell len, kx_a q_cell cyI 160 f, kx_a q_from cyI 319 o_5, kx_a q_to cyI 319 o_6, kx_a q_size cyI 319 o_7, kx_a q_lossOf cyI 319 o_8, kx_a q_lessBy cyI 319 o_9, kx_a q_value cyI 1914 o_10, kx_a q_number cyI 1914 o_11, kx_3 q_joined j_v j_n o_12 o_13 o_14, kx_a j_v cyI 12 o_15, kx_a j_n cyI 12 o_16, kx_3 h0 a_v a_n o_17 o_18 o_19, kx_a a_v cyI 12 o_20, kx_a a_n cyI 12 o_21]) hP hD rfl
    refine vx_catch hown [] ⟨0, 18, 21, 13⟩ [] htb (fun z hz => by cases hz) (by decide) (by decide) (hts (.classLink RL 13 EXN) (by decide +kernel)) (va_Nw.use rfl hth.1.1) hce hcv hcl ?_
    refine W.eq (g2 := F0 m 21 ls [.ref q9]) rfl ?_
    have w_1 : (0 : Int) ≤ 1 ∧ laidP o_2 o_5 o_6 o_3 len ∧ sixes o_7 := w_1
    refine W.widen (k := 1) (n := 6) (Nat.le_of_ble_eq_true rfl) (Nat.le_of_ble_eq_true rfl) ?_
    refine lv_astore (lv' := [(8, .ref q9), (0, .ref m_), (1, .int p0), (2, .int p1), (3, .int p2), (4, .int p3), (5, .int p4), (6, .int p5), (7, .ref ho)]) hx hb dL_heavyAt_21 hl (by decide) rfl (fun ls hl => ?_)
    refine lv_iconst (v := 1) hx hb dL_heavyAt_23 (by decide) ?_
    obtain ⟨hP9, hD9⟩ := kx_sub (w2 := [kx_4 m_ q_row q_t t_ h0 k0 w_ z_ slots o_2, kx_2 q_t q_row q_joined q_from q_to q_size q_lossOf q_lessBy q_value q_number o_3 o_4, kx_0 q_row q_cell len, kx_a q_cell cyI 160 f, kx_a q_from cyI 319 o_5, kx_a q_to cyI 319 o_6, kx_a q_size cyI 319 o_7, kx_a q_lossOf cyI 319 o_8, kx_a q_lessBy cyI 319 o_9, kx_a q_value cyI 1914 o_10, kx_a q_number cyI 1914 o_11, kx_3 q_joined j_v j_n o_12 o_13 o_14, kx_a j_v cyI 12 o_15, kx_a j_n cyI 12 o_16, kx_3 h0 a_v a_n o_17 o_18 o_19, kx_a a_v cyI 12 o_20, kx_a a_n cyI 12 o_21, (ho, .inl (cyL, 1, .inr (.inl ol)))]) hP hD [1, 2, 3, 4, 5, 6, 7, 8, 9, 10, 11, 12, 13, 14, 15, 16, 17, 0] (by decide) rfl
    have hK9 := hK
    exact W.iret (v := 1) hx hb hr (hlocks := hlocks) (fun t ht hW => ⟨⟨1, (o_2, o_3, o_4, o_5, o_6, o_7, o_8, o_9, o_10, o_11, o_12, o_13, o_14, o_15, o_16, o_17, o_18, o_19, o_20, o_21, ol, (0 : Int32)), rfl, ⟨Or.inr ⟨rfl, w_1.1⟩, w_1.2⟩, by rw [ht]; exact hP9, va_K.moved hW.alike hK9, hD9⟩, hS.F ht⟩) hS.2.2 dL_heavyAt_24
  · obtain ⟨o_22, o_23, o_24, o_25, o_26, o_27, o_28, o_29, o_30, o_31, o_32, o_33, o_34, o_35, o_36, o_37, o_38, o_39, o_40, o_41⟩ := u
    dsimp only at w_1 hB
    obtain ⟨hP1, hK1, hD1⟩ := hB
    rw [ht] at hP1
    have hK1 := va_K.moved hvm.symm hK1
    obtain ⟨hP, hD⟩ := va_join (wr := [(ho, .inl (cyL, 1, .inr (.inl ol)))]) (w1 := [kx_4 m_ q_row q_t t_ h0 k0 w_ z_ slots o_22, kx_2 q_t q_row q_joined q_from q_to q_size q_lossOf q_lessBy q_value q_number o_23 o_24, kx_0 q_row q_cell len, kx_a q_cell cyI 160 f, kx_a q_from cyI 319 o_25, kx_a q_to cyI 319 o_26, kx_a q_size cyI 319 o_27, kx_a q_lossOf cyI 319 o_28, kx_a q_lessBy cyI 319 o_29, kx_a q_value cyI 1914 o_30, kx_a q_number cyI 1914 o_31, kx_3 q_joined j_v j_n o_32 o_33 o_34, kx_a j_v cyI 12 o_35, kx_a j_n cyI 12 o_36, kx_3 h0 a_v a_n o_37 o_38 o_39, kx_a a_v cyI 12 o_40, kx_a a_n cyI 12 o_41]) hP hD [0, 1, 2, 3, 4, 5, 6, 7, 8, 9, 10, 11, 12, 13, 14, 15, 16] [17] rfl rfl (by decide) (by decide) hk1 hFc hP1 hD1
    clear hP1 hD1 hK1 hk1 hz1 hFc hDc hPc hKc
    generalize H1 = H at hP hS ⊢
    obtain ⟨hP, hD⟩ := kx_re (w2 := [(ho, .inl (cyL, 1, .inr (.inl ol))), kx_4 m_ q_row q_t t_ h0 k0 w_ z_ slots o_22, kx_2 q_t q_row q_joined q_from q_to q_size q_lossOf q_lessBy q_value q_number o_23 o_24, kx_0 q_row q_cell len, kx_a q_cell cyI 160 f, kx_a q_from cyI 319 o_25, kx_a q_to cyI 319 o_26, kx_a q_size cyI 319 o_27, kx_a q_lossOf cyI 319 o_28, kx_a q_lessBy cyI 319 o_29, kx_a q_value cyI 1914 o_30, kx_a q_number cyI 1914 o_31, kx_3 q_joined j_v j_n o_32 o_33 o_34, kx_a j_v cyI 12 o_35, kx_a j_n cyI 12 o_36, kx_3 h0 a_v a_n o_37 o_38 o_39, kx_a a_v cyI 12 o_40, kx_a a_n cyI 12 o_41]) hP hD rfl
    have w_1 : (0 : Int) ≤ 1 ∧ laidP o_22 o_25 o_26 o_23 len ∧ sixes o_27 := w_1
    refine W.widen (k := 1) (n := 6) (Nat.le_of_ble_eq_true rfl) (Nat.le_of_ble_eq_true rfl) ?_
    refine lv_i2l hx hb dL_heavyAt_16 rfl ?_
    refine va_last hx hb hK hP hD hS 0 1 rfl rfl (ki_inl (by decide)) dL_heavyAt_17 (fun H locs hP hD hS => ?_)
    obtain ⟨hP, hD⟩ := kx_re (w2 := [(ho, .inl (cyL, 1, .inr (.inl (vp_updL ol (0 : Int32).toNatClampNeg r_1.toInt64)))), kx_4 m_ q_row q_t t_ h0 k0 w_ z_ slots o_22, kx_2 q_t q_row q_joined q_from q_to q_size q_lossOf q_lessBy q_value q_number o_23 o_24, kx_0 q_row q_cell len, kx_a q_cell cyI 160 f, kx_a q_from cyI 319 o_25, kx_a q_to cyI 319 o_26, kx_a q_size cyI 319 o_27, kx_a q_lossOf cyI 319 o_28, kx_a q_lessBy cyI 319 o_29, kx_a q_value cyI 1914 o_30, kx_a q_number cyI 1914 o_31, kx_3 q_joined j_v j_n o_32 o_33 o_34, kx_a j_v cyI 12 o_35, kx_a j_n cyI 12 o_36, kx_3 h0 a_v a_n o_37 o_38 o_39, kx_a a_v cyI 12 o_40, kx_a a_n cyI 12 o_41]) hP hD rfl
    refine lv_goto (tgt := 25) hx hb dL_heavyAt_18 (by decide) ?_
    refine lv_iconst (v := 0) hx hb dL_heavyAt_25 (by decide) ?_
    obtain ⟨hP9, hD9⟩ := kx_sub (w2 := [kx_4 m_ q_row q_t t_ h0 k0 w_ z_ slots o_22, kx_2 q_t q_row q_joined q_from q_to q_size q_lossOf q_lessBy q_value q_number o_23 o_24, kx_0 q_row q_cell len, kx_a q_cell cyI 160 f, kx_a q_from cyI 319 o_25, kx_a q_to cyI 319 o_26, kx_a q_size cyI 319 o_27, kx_a q_lossOf cyI 319 o_28, kx_a q_lessBy cyI 319 o_29, kx_a q_value cyI 1914 o_30, kx_a q_number cyI 1914 o_31, kx_3 q_joined j_v j_n o_32 o_33 o_34, kx_a j_v cyI 12 o_35, kx_a j_n cyI 12 o_36, kx_3 h0 a_v a_n o_37 o_38 o_39, kx_a a_v cyI 12 o_40, kx_a a_n cyI 12 o_41, (ho, .inl (cyL, 1, .inr (.inl (vp_updL ol (0 : Int32).toNatClampNeg r_1.toInt64))))]) hP hD [1, 2, 3, 4, 5, 6, 7, 8, 9, 10, 11, 12, 13, 14, 15, 16, 17, 0] (by decide) rfl
    have hK9 := hK
    exact W.iret (v := 0) hx hb hr (hlocks := hlocks) (fun t ht hW => ⟨⟨0, (o_22, o_23, o_24, o_25, o_26, o_27, o_28, o_29, o_30, o_31, o_32, o_33, o_34, o_35, o_36, o_37, o_38, o_39, o_40, o_41, (vp_updL ol (0 : Int32).toNatClampNeg r_1.toInt64), r_1), rfl, ⟨Or.inl ⟨rfl, w_1.1, rfl⟩, w_1.2⟩, by rw [ht]; exact hP9, va_K.moved hW.alike hK9, hD9⟩, hS.F ht⟩) hS.2.2 dL_heavyAt_26



/-! counting, first ones, majorities -/
theorem cnt_two {f : Nat → Int32} {v w : Int32} (h : ¬ v = w) (l : Nat) : ∀ k : Nat, cnt f v l k + cnt f w l k ≤ k
  | 0 => Nat.le_refl 0
  | k + 1 => by
    have ih := cnt_two (f := f) h l k
    simp only [cnt]
    by_cases h1 : f (l + k) = v
    · rw [if_pos h1, if_neg (fun e => h (h1.symm.trans e))]
      omega
    · rw [if_neg h1]
      split <;> omega
theorem cnt_pos {f : Nat → Int32} {v : Int32} {l : Nat} : ∀ {k : Nat}, 0 < cnt f v l k → ∃ j : Nat, j < k ∧ f (l + j) = v
  | 0, h => absurd h (Nat.lt_irrefl 0)
  | k + 1, h => by
    by_cases h1 : f (l + k) = v
    · exact ⟨k, Nat.lt_succ_self k, h1⟩
    · simp only [cnt] at h
      rw [if_neg h1] at h
      obtain ⟨j, hj, e⟩ := cnt_pos (k := k) h
      exact ⟨j, by omega, e⟩
theorem cnt_hit1 {f : Nat → Int32} {v : Int32} {l k k2 : Nat} (e : f (l + k) = v) (h : k2 = k + 1) : cnt f v l k2 = cnt f v l k + 1 := by
  subst h
  simp only [cnt]
  rw [if_pos e]
theorem cnt_miss1 {f : Nat → Int32} {v : Int32} {l k k2 : Nat} (e : ¬ f (l + k) = v) (h : k2 = k + 1) : cnt f v l k2 = cnt f v l k := by
  subst h
  simp only [cnt]
  rw [if_neg e]
  omega
theorem mj_maj_uni {f : Nat → Int32} {l r : Nat} {v w : Int32} (h : mj_maj f l r v) (h2 : mj_maj f l r w) : v = w := by
  by_cases e : v = w
  · exact e
  · exfalso
    rcases h with ⟨k, a1, a2, a3, a4⟩ | ⟨a1, a2⟩ <;> rcases h2 with ⟨j, b1, b2, b3, b4⟩ | ⟨b1, b2⟩
    · have := cnt_two (f := f) e l (r - l)
      omega
    · have := b2 k a1 a2
      rw [a3] at this
      omega
    · have := a2 j b1 b2
      rw [b3] at this
      omega
    · exact e (a1.trans b1.symm)
def mj_first (P : Nat → Prop) (lo hi : Nat) (none x : Int) : Prop := (∃ m : Nat, lo ≤ m ∧ m < hi ∧ P m ∧ x = (m : Int) ∧ ∀ k : Nat, lo ≤ k → k < m → ¬ P k) ∨ (x = none ∧ ∀ k : Nat, lo ≤ k → k < hi → ¬ P k)
def mj_cutP (f : Nat → Int32) (l r m : Nat) : Prop := ∃ a b : Int32, mj_maj f l m a ∧ mj_maj f m r b ∧ ¬ a = -40000 ∧ ¬ b = -40000 ∧ ¬ a = b
theorem mj_cut_no {f : Nat → Int32} {l r m : Nat} {a b : Int32} (ha : mj_maj f l m a) (hb : mj_maj f m r b) (h : a = -40000 ∨ b = -40000 ∨ a = b) : ¬ mj_cutP f l r m := by
  rintro ⟨x, y, h1, h2, h3, h4, h5⟩
  have e1 := mj_maj_uni h1 ha
  have e2 := mj_maj_uni h2 hb
  subst e1; subst e2
  rcases h with h | h | h
  · exact h3 h
  · exact h4 h
  · exact h5 h
/-- each place's first like one -/
def mj_kd (f fk : Nat → Int32) (n : Nat) : Prop := ∀ k : Nat, k < n → 0 ≤ (fk k).toInt ∧ (fk k).toInt ≤ (k : Int) ∧ f (fk k).toNatClampNeg = f k ∧ ∀ j : Nat, j < (fk k).toNatClampNeg → ¬ f j = f k
theorem mj_kd_0 (f fk : Nat → Int32) {n : Nat} (h : n = 0) : mj_kd f fk n := fun k hk => absurd hk (by omega)
theorem mj_kd_put {f fk : Nat → Int32} {n n2 : Nat} {x : Int32} (h : mj_kd f fk n) (e : n2 = n + 1) (h0 : 0 ≤ x.toInt) (h1 : x.toInt ≤ (n : Int)) (h2 : f x.toNatClampNeg = f n) (h3 : ∀ j : Nat, j < x.toNatClampNeg → ¬ f j = f n) : mj_kd f (upd fk n x) n2 := by
  subst e
  intro k hk
  by_cases hkn : k = n
  · subst hkn
    rw [upd_at]
    exact ⟨h0, h1, h2, h3⟩
  · rw [upd_ne hkn]
    exact h k (by omega)
theorem mj_kd_ok {f fk : Nat → Int32} {n : Nat} {m : Int} (h : mj_kd f fk n) (e : (n : Int) = m) : kindOk fk m := fun k hk => ⟨(h k (by omega)).1, (h k (by omega)).2.1⟩


set_option maxHeartbeats 4000000 in
set_option maxRecDepth 100000 in
theorem c_X4_isHeavy_x (l : Launch) (dC : Nat → ClassId) (dI : Nat → Nat → Nat) (p0 : Int32) (p1 : Int32) (p2 : Int32) (p3 : Int32) (b0 : 0 ≤ p0.toInt) (b1 : p0.toInt ≤ 320) (b2 : 0 ≤ p1.toInt) (b3 : p1.toInt ≤ 320) (b4 : 0 ≤ p2.toInt) (b5 : p2.toInt ≤ 999) (b6 : 0 ≤ p3.toInt) (b7 : p3.toInt ≤ 999) : Met l yX4_isHeavy wsX4_isHeavy ({ frames := 0, cells := 0, slots := 0, locals := 0 }) (va_Pc [.int p0, .int p1, .int p2, .int p3] (fun U => va_P (dC, dI) vwCl [] U.heap ∧ va_K (dC, dI) vwCl [] U)) (vp_Si (fun r : Int32 => (r = 1 ∧ p2.toInt * p1.toInt < p0.toInt * p3.toInt) ∨ (r = 0 ∧ p0.toInt * p3.toInt ≤ p2.toInt * p1.toInt))) 0 0 (fun _ => False) := by
  refine kx_stS (ws := wsX4_isHeavy) (cc := cX4_isHeavy) (maxL := 4) (ret := (some .boolean)) (by decide) rfl (Nat.le_of_ble_eq_true rfl) ?_
  intro p e s m below meth c ls hx hb hr hlocks hts hown hml hP hK hl
  have hown : s.vm.findClass RX4 = some m.cls := hown
  have hl : lv_has ls 4 [(0, .int p0), (1, .int p1), (2, .int p2), (3, .int p3)] := hl
  refine lv_iload_n hx hb dX4_isHeavy_0 rfl (lv_at hl 0 rfl) ?_
  refine lv_iload_n hx hb dX4_isHeavy_1 rfl (lv_at hl 3 rfl) ?_
  refine lv_imul hx hb dX4_isHeavy_2 ?_
  refine lv_topi (fun y_1 ey_1 => ?_)
  refine lv_iload_n hx hb dX4_isHeavy_3 rfl (lv_at hl 2 rfl) ?_
  refine lv_iload_n hx hb dX4_isHeavy_4 rfl (lv_at hl 1 rfl) ?_
  refine lv_imul hx hb dX4_isHeavy_5 ?_
  refine lv_topi (fun y_2 ey_2 => ?_)
  have h1 := ki_mulb (a := p0.toInt) (b := p3.toInt) (A := 320) (B := 999) (by omega) (by omega) (by omega) (by omega)
  have h2 := ki_mulb (a := p2.toInt) (b := p1.toInt) (A := 999) (B := 320) (by omega) (by omega) (by omega) (by omega)
  have m1 : y_1.toInt = p0.toInt * p3.toInt := ki_mul ey_1 rfl rfl (by omega) (by omega)
  have m2 : y_2.toInt = p2.toInt * p1.toInt := ki_mul ey_2 rfl rfl (by omega) (by omega)
  refine lv_icmp_le (tgt := 13) hx hb dX4_isHeavy_6 (by decide) (fun c_3 => ?_) (fun c_3 => ?_)
  · have i_3 : y_1.toInt ≤ y_2.toInt := kc_le c_3
    refine lv_iconst (v := 0) hx hb dX4_isHeavy_13 (by decide) ?_
    exact W.zret (v := 0) hx hb hr (by decide) (hlocks := hlocks) (fun t ht hW => ⟨0, rfl, Or.inr (⟨rfl, by omega⟩), ht⟩) (fun q hq => by cases hq) dX4_isHeavy_14
  · have i_3 : y_2.toInt < y_1.toInt := kc_nle c_3
    refine lv_iconst (v := 1) hx hb dX4_isHeavy_9 (by decide) ?_
    refine lv_goto (tgt := 14) hx hb dX4_isHeavy_10 (by decide) ?_
    exact W.zret (v := 1) hx hb hr (by decide) (hlocks := hlocks) (fun t ht hW => ⟨1, rfl, Or.inl ⟨rfl, by omega⟩, ht⟩) (fun q hq => by cases hq) dX4_isHeavy_14

set_option maxHeartbeats 4000000 in
set_option maxRecDepth 100000 in
theorem c_X5_majority_x (l : Launch) (dC : Nat → ClassId) (dI : Nat → Nat → Nat) (h0 : Nat) (g_row : Nat) (g_many : Nat) (g_loss : Nat) (g_less : Nat) (g_voteValue : Nat) (g_voteNumber : Nat) (g_allValue : Nat) (g_allNumber : Nat) (g_nodeL : Nat) (g_nodeR : Nat) (g_part : Nat) (g_wasMany : Nat) (g_wasLoss : Nat) (g_wasValue : Nat) (g_wasNumber : Nat) (g_path : Nat) (g_heavyValue : Nat) (g_heavyTimes : Nat) (g_fewest : Nat) (g_which : Nat) (g_met : Nat) (m_n : Int32) (m_slots : Int32) (m_thrown : Int32) (m_allMany : Int32) (m_nodes : Int32) (m_partMany : Int32) (m_pathMany : Int32) (m_heavyMany : Int32) (m_mostMet : Int32) (cyI : ClassId) (f : Nat → Int32) (p0 : Int32) (p1 : Int32) (sz : Nat) (a0 : 0 ≤ m_n.toInt) (a1 : m_n.toInt ≤ 160) : kx_MQ l (dC, dI) yX5_majority wsX5_majority ({ frames := 2, cells := 0, slots := 0, locals := 90 }) [.ref h0, .int p0, .int p1] [kx_5 h0 g_row m_n m_slots m_thrown g_many g_loss g_less g_voteValue g_voteNumber g_allValue g_allNumber m_allMany g_nodeL g_nodeR m_nodes g_part m_partMany g_wasMany g_wasLoss g_wasValue g_wasNumber g_path m_pathMany g_heavyValue g_heavyTimes m_heavyMany g_fewest g_which g_met m_mostMet, kx_a g_row cyI 160 f] [(cyI, .int)] sz (fun A => va_Qi (fun (r : Int32) (_ : Unit) => ((0 ≤ p0.toInt ∧ p0.toInt < p1.toInt ∧ p1.toInt ≤ m_n.toInt) ∧ mj_maj f p0.toNatClampNeg p1.toNatClampNeg r) ∨ ((p0.toInt < 0 ∨ p1.toInt ≤ p0.toInt ∨ m_n.toInt < p1.toInt) ∧ r = -40000)) (fun (_ : Unit) (t : State) => va_P (dC, dI) vwCl [kx_5 h0 g_row m_n m_slots 0 g_many g_loss g_less g_voteValue g_voteNumber g_allValue g_allNumber m_allMany g_nodeL g_nodeR m_nodes g_part m_partMany g_wasMany g_wasLoss g_wasValue g_wasNumber g_path m_pathMany g_heavyValue g_heavyTimes m_heavyMany g_fewest g_which g_met m_mostMet, kx_a g_row cyI 160 f] t.heap ∧ va_K (dC, dI) vwCl [(cyI, .int)] t ∧ va_D A [kx_5 h0 g_row m_n m_slots 0 g_many g_loss g_less g_voteValue g_voteNumber g_allValue g_allNumber m_allMany g_nodeL g_nodeR m_nodes g_part m_partMany g_wasMany g_wasLoss g_wasValue g_wasNumber g_path m_pathMany g_heavyValue g_heavyTimes m_heavyMany g_fewest g_which g_met m_mostMet, kx_a g_row cyI 160 f]) A) := by
  refine kx_stQ (ws := wsX5_majority) (cc := cX5_majority) (maxL := 3) (ret := (some .int)) (by decide) rfl (Nat.le_of_ble_eq_true rfl) ?_
  intro p e s m below meth c A ls hx hb hr hlocks hts hown hml hA hS hP hK hD hl
  have hown : s.vm.findClass RX5 = some m.cls := hown
  have hl : lv_has ls 3 [(0, .ref h0), (1, .int p0), (2, .int p1)] := hl
  have hf_77 := hts (.fieldLink RX5 77 "MajorityIndexModel" "thrown" "I") (List.mem_of_getElem? (i := 1) rfl)
  have hi_5 : ∀ w ∈ u_ws RX5 TX5 30, w ∈ wsX5_majority := fun w h => List.mem_cons_of_mem _ (List.mem_append_right _ h)
  have hk_148 := hts (.constant RX5 148 (-40000)) (List.mem_of_getElem? (i := 2) rfl)
  refine lv_aload_n hx hb dX5_majority_0 rfl (lv_at hl 0 rfl) ?_
  refine lv_iconst (v := 0) hx hb dX5_majority_1 (by decide) ?_
  refine va_put (D := (dC, dI)) (ci := 5) (v := .int 0) (ty := .int) (C := RX5) (T := TX5) (N := 30) hx hb hts hi_5 tyX5 tyX5_ok nmX5 hown hK hP hD hS 0 rfl rfl 3 (by decide) hf_77 (fun _ h9 => h9) rfl (by decide +kernel) rfl rfl (Nat.le_of_ble_eq_true rfl) dX5_majority_2 (fun H locs hP hD hS => ?_)
  obtain ⟨hP, hD⟩ := kx_re (w2 := [kx_5 h0 g_row m_n m_slots 0 g_many g_loss g_less g_voteValue g_voteNumber g_allValue g_allNumber m_allMany g_nodeL g_nodeR m_nodes g_part m_partMany g_wasMany g_wasLoss g_wasValue g_wasNumber g_path m_pathMany g_heavyValue g_heavyTimes m_heavyMany g_fewest g_which g_met m_mostMet, kx_a g_row cyI 160 f]) hP hD rfl
  refine lv_aload_n hx hb dX5_majority_5 rfl (lv_at hl 0 rfl) ?_
  refine lv_iload_n hx hb dX5_majority_6 rfl (lv_at hl 1 rfl) ?_
  refine lv_iload_n hx hb dX5_majority_7 rfl (lv_at hl 2 rfl) ?_
  have hPc := hP.sub (ws' := [kx_5 h0 g_row m_n m_slots 0 g_many g_loss g_less g_voteValue g_voteNumber g_allValue g_allNumber m_allMany g_nodeL g_nodeR m_nodes g_part m_partMany g_wasMany g_wasLoss g_wasValue g_wasNumber g_path m_pathMany g_heavyValue g_heavyTimes m_heavyMany g_fewest g_which g_met m_mostMet]) [0] rfl
  have hKc := hK.sub (tys' := []) [] rfl
  refine vp_callSi (W.runV (As := [.int p0, .int p1]) (rest := []) ⟨hx, hb, hml, hown, hts⟩ (c_X5_isRange l dC dI h0 g_row g_many g_loss g_less g_voteValue g_voteNumber g_allValue g_allNumber g_nodeL g_nodeR g_part g_wasMany g_wasLoss g_wasValue g_wasNumber g_path g_heavyValue g_heavyTimes g_fewest g_which g_met m_n m_slots 0 m_allMany m_nodes m_partMany m_pathMany m_heavyMany m_mostMet p0 p1) (cwV 2 hts gX5_majority_X5_isRange rfl rfl rfl (by decide +kernel) ⟨Nat.le_of_ble_eq_true rfl, Nat.le_of_ble_eq_true rfl⟩) ⟨fun a U g mk q => by obtain ⟨q0, qP, qK⟩ := q; exact ⟨q0, qP, va_K.moved (u := U) (U := U.calling g mk a) (Vm.Alike.refl U.vm) qK⟩, kx_rc5 hKc hPc (q0 := 0) rfl, fun U hU hW => ⟨rfl, by rw [hU]; exact hPc, va_K.moved hW.alike hKc⟩⟩ rfl rfl hl.1 rfl (lv_room (Nat.le_of_ble_eq_true rfl)) dX5_majority_8 ⟨Nat.le_of_ble_eq_true rfl, Nat.le_of_ble_eq_true rfl⟩) (fun r_1 w_1 => ?_)
  rcases w_1 with ⟨rfl, w_1⟩ | ⟨rfl, w_1⟩
  · have w_1 : (0 ≤ p0.toInt ∧ p0.toInt < p1.toInt ∧ p1.toInt ≤ m_n.toInt) := w_1
    refine lv_if_eq (tgt := 23) hx hb dX5_majority_11 (by decide) (fun c_2 => ?_) (fun c_2 => ?_)
    · exact absurd c_2 (by decide)
    · refine lv_aload_n hx hb dX5_majority_14 rfl (lv_at hl 0 rfl) ?_
      refine lv_iload_n hx hb dX5_majority_15 rfl (lv_at hl 1 rfl) ?_
      refine lv_iload_n hx hb dX5_majority_16 rfl (lv_at hl 2 rfl) ?_
      have hPc := hP
      have hKc := hK
      refine vp_callSi (W.runV (As := [.int p0, .int p1]) (rest := []) ⟨hx, hb, hml, hown, hts⟩ (c_X5_majorityOf_x l dC dI h0 g_row g_many g_loss g_less g_voteValue g_voteNumber g_allValue g_allNumber g_nodeL g_nodeR g_part g_wasMany g_wasLoss g_wasValue g_wasNumber g_path g_heavyValue g_heavyTimes g_fewest g_which g_met m_n m_slots 0 m_allMany m_nodes m_partMany m_pathMany m_heavyMany m_mostMet cyI f p0 p1 (om_10 w_1.1) (om_167 a1 w_1.2.2) (om_11 w_1.2.1)) (cwV 2 hts gX5_majority_X5_majorityOf rfl rfl rfl (by decide +kernel) ⟨Nat.le_of_ble_eq_true rfl, Nat.le_of_ble_eq_true rfl⟩) ⟨fun a U g mk q => by obtain ⟨q0, qP, qK⟩ := q; exact ⟨q0, qP, va_K.moved (u := U) (U := U.calling g mk a) (Vm.Alike.refl U.vm) qK⟩, kx_rc5 hKc hPc (q0 := 0) rfl, fun U hU hW => ⟨rfl, by rw [hU]; exact hPc, va_K.moved hW.alike hKc⟩⟩ rfl rfl hl.1 rfl (lv_room (Nat.le_of_ble_eq_true rfl)) dX5_majority_17 ⟨Nat.le_of_ble_eq_true rfl, Nat.le_of_ble_eq_true rfl⟩) (fun r_3 w_3 => ?_)
      have w_3 : mj_maj f p0.toNatClampNeg p1.toNatClampNeg r_3 := w_3
      refine lv_goto (tgt := 25) hx hb dX5_majority_20 (by decide) ?_
      have hP9 := hP
      have hD9 := hD
      have hK9 := hK
      exact W.iret (v := r_3) hx hb hr (hlocks := hlocks) (fun t ht hW => ⟨⟨r_3, (), rfl, (Or.inl ⟨(by (try dsimp only); omega), w_3⟩), by rw [ht]; exact hP9, va_K.moved hW.alike hK9, hD9⟩, hS.F ht⟩) hS.2.2 dX5_majority_25
  · have w_1 : (p0.toInt < 0 ∨ p1.toInt ≤ p0.toInt ∨ m_n.toInt < p1.toInt) := w_1
    refine lv_if_eq (tgt := 23) hx hb dX5_majority_11 (by decide) (fun c_4 => ?_) (fun c_4 => ?_)
    · refine lv_ldc (v := (-40000)) hx hb hown hk_148 dX5_majority_23 ?_
      have hP9 := hP
      have hD9 := hD
      have hK9 := hK
      exact W.iret (v := (-40000)) hx hb hr (hlocks := hlocks) (fun t ht hW => ⟨⟨(-40000), (), rfl, (Or.inr ⟨(by (try dsimp only); omega), rfl⟩), by rw [ht]; exact hP9, va_K.moved hW.alike hK9, hD9⟩, hS.F ht⟩) hS.2.2 dX5_majority_25
    · exact absurd c_4 (by decide)

set_option maxHeartbeats 4000000 in
set_option maxRecDepth 100000 in
theorem c_X5_cut_x (l : Launch) (dC : Nat → ClassId) (dI : Nat → Nat → Nat) (h0 : Nat) (g_row : Nat) (g_many : Nat) (g_loss : Nat) (g_less : Nat) (g_voteValue : Nat) (g_voteNumber : Nat) (g_allValue : Nat) (g_allNumber : Nat) (g_nodeL : Nat) (g_nodeR : Nat) (g_part : Nat) (g_wasMany : Nat) (g_wasLoss : Nat) (g_wasValue : Nat) (g_wasNumber : Nat) (g_path : Nat) (g_heavyValue : Nat) (g_heavyTimes : Nat) (g_fewest : Nat) (g_which : Nat) (g_met : Nat) (m_n : Int32) (m_slots : Int32) (m_thrown : Int32) (m_allMany : Int32) (m_nodes : Int32) (m_partMany : Int32) (m_pathMany : Int32) (m_heavyMany : Int32) (m_mostMet : Int32) (cyI : ClassId) (f : Nat → Int32) (p0 : Int32) (p1 : Int32) (sz : Nat) (a0 : 0 ≤ m_n.toInt) (a1 : m_n.toInt ≤ 160) : kx_MQ l (dC, dI) yX5_cut wsX5_cut ({ frames := 2, cells := 0, slots := 0, locals := 90 }) [.ref h0, .int p0, .int p1] [kx_5 h0 g_row m_n m_slots m_thrown g_many g_loss g_less g_voteValue g_voteNumber g_allValue g_allNumber m_allMany g_nodeL g_nodeR m_nodes g_part m_partMany g_wasMany g_wasLoss g_wasValue g_wasNumber g_path m_pathMany g_heavyValue g_heavyTimes m_heavyMany g_fewest g_which g_met m_mostMet, kx_a g_row cyI 160 f] [(cyI, .int)] sz (fun A => va_Qi (fun (r : Int32) (_ : Unit) => ((0 ≤ p0.toInt ∧ p0.toInt < p1.toInt ∧ p1.toInt ≤ m_n.toInt) ∧ mj_first (mj_cutP f p0.toNatClampNeg p1.toNatClampNeg) (p0.toNatClampNeg + 1) p1.toNatClampNeg (-1) r.toInt) ∨ ((p0.toInt < 0 ∨ p1.toInt ≤ p0.toInt ∨ m_n.toInt < p1.toInt) ∧ r = -1)) (fun (_ : Unit) (t : State) => va_P (dC, dI) vwCl [kx_5 h0 g_row m_n m_slots 0 g_many g_loss g_less g_voteValue g_voteNumber g_allValue g_allNumber m_allMany g_nodeL g_nodeR m_nodes g_part m_partMany g_wasMany g_wasLoss g_wasValue g_wasNumber g_path m_pathMany g_heavyValue g_heavyTimes m_heavyMany g_fewest g_which g_met m_mostMet, kx_a g_row cyI 160 f] t.heap ∧ va_K (dC, dI) vwCl [(cyI, .int)] t ∧ va_D A [kx_5 h0 g_row m_n m_slots 0 g_many g_loss g_less g_voteValue g_voteNumber g_allValue g_allNumber m_allMany g_nodeL g_nodeR m_nodes g_part m_partMany g_wasMany g_wasLoss g_wasValue g_wasNumber g_path m_pathMany g_heavyValue g_heavyTimes m_heavyMany g_fewest g_which g_met m_mostMet, kx_a g_row cyI 160 f]) A) := by
  refine kx_stQ (ws := wsX5_cut) (cc := cX5_cut) (maxL := 6) (ret := (some .int)) (by decide) rfl (Nat.le_of_ble_eq_true rfl) ?_
  intro p e s m below meth c A ls hx hb hr hlocks hts hown hml hA hS hP hK hD hl
  have hown : s.vm.findClass RX5 = some m.cls := hown
  have hl : lv_has ls 6 [(0, .ref h0), (1, .int p0), (2, .int p1)] := hl
  have hf_77 := hts (.fieldLink RX5 77 "MajorityIndexModel" "thrown" "I") (List.mem_of_getElem? (i := 1) rfl)
  have hi_5 : ∀ w ∈ u_ws RX5 TX5 30, w ∈ wsX5_cut := fun w h => List.mem_cons_of_mem _ (List.mem_append_right _ h)
  have hk_148 := hts (.constant RX5 148 (-40000)) (List.mem_of_getElem? (i := 2) rfl)
  refine lv_aload_n hx hb dX5_cut_0 rfl (lv_at hl 0 rfl) ?_
  refine lv_iconst (v := 0) hx hb dX5_cut_1 (by decide) ?_
  refine va_put (D := (dC, dI)) (ci := 5) (v := .int 0) (ty := .int) (C := RX5) (T := TX5) (N := 30) hx hb hts hi_5 tyX5 tyX5_ok nmX5 hown hK hP hD hS 0 rfl rfl 3 (by decide) hf_77 (fun _ h9 => h9) rfl (by decide +kernel) rfl rfl (Nat.le_of_ble_eq_true rfl) dX5_cut_2 (fun H locs hP hD hS => ?_)
  obtain ⟨hP, hD⟩ := kx_re (w2 := [kx_5 h0 g_row m_n m_slots 0 g_many g_loss g_less g_voteValue g_voteNumber g_allValue g_allNumber m_allMany g_nodeL g_nodeR m_nodes g_part m_partMany g_wasMany g_wasLoss g_wasValue g_wasNumber g_path m_pathMany g_heavyValue g_heavyTimes m_heavyMany g_fewest g_which g_met m_mostMet, kx_a g_row cyI 160 f]) hP hD rfl
  refine lv_aload_n hx hb dX5_cut_5 rfl (lv_at hl 0 rfl) ?_
  refine lv_iload_n hx hb dX5_cut_6 rfl (lv_at hl 1 rfl) ?_
  refine lv_iload_n hx hb dX5_cut_7 rfl (lv_at hl 2 rfl) ?_
  have hPc := hP.sub (ws' := [kx_5 h0 g_row m_n m_slots 0 g_many g_loss g_less g_voteValue g_voteNumber g_allValue g_allNumber m_allMany g_nodeL g_nodeR m_nodes g_part m_partMany g_wasMany g_wasLoss g_wasValue g_wasNumber g_path m_pathMany g_heavyValue g_heavyTimes m_heavyMany g_fewest g_which g_met m_mostMet]) [0] rfl
  have hKc := hK.sub (tys' := []) [] rfl
  refine vp_callSi (W.runV (As := [.int p0, .int p1]) (rest := []) ⟨hx, hb, hml, hown, hts⟩ (c_X5_isRange l dC dI h0 g_row g_many g_loss g_less g_voteValue g_voteNumber g_allValue g_allNumber g_nodeL g_nodeR g_part g_wasMany g_wasLoss g_wasValue g_wasNumber g_path g_heavyValue g_heavyTimes g_fewest g_which g_met m_n m_slots 0 m_allMany m_nodes m_partMany m_pathMany m_heavyMany m_mostMet p0 p1) (cwV 2 hts gX5_cut_X5_isRange rfl rfl rfl (by decide +kernel) ⟨Nat.le_of_ble_eq_true rfl, Nat.le_of_ble_eq_true rfl⟩) ⟨fun a U g mk q => by obtain ⟨q0, qP, qK⟩ := q; exact ⟨q0, qP, va_K.moved (u := U) (U := U.calling g mk a) (Vm.Alike.refl U.vm) qK⟩, kx_rc5 hKc hPc (q0 := 0) rfl, fun U hU hW => ⟨rfl, by rw [hU]; exact hPc, va_K.moved hW.alike hKc⟩⟩ rfl rfl hl.1 rfl (lv_room (Nat.le_of_ble_eq_true rfl)) dX5_cut_8 ⟨Nat.le_of_ble_eq_true rfl, Nat.le_of_ble_eq_true rfl⟩) (fun r_1 w_1 => ?_)
  rcases w_1 with ⟨rfl, w_1⟩ | ⟨rfl, w_1⟩
  · have w_1 : (0 ≤ p0.toInt ∧ p0.toInt < p1.toInt ∧ p1.toInt ≤ m_n.toInt) := w_1
    refine lv_if_ne (tgt := 16) hx hb dX5_cut_11 (by decide) (fun c_2 => ?_) (fun c_2 => ?_)
    · have n_p0 := ki_nat p0 rfl (om_10 w_1.1)
      have n_p1 := ki_nat p1 rfl (om_21 w_1.1 w_1.2.1)
      refine lv_iload_n hx hb dX5_cut_16 rfl (lv_at hl 1 rfl) ?_
      refine lv_iconst (v := 1) hx hb dX5_cut_17 (by decide) ?_
      refine lv_iadd hx hb dX5_cut_18 ?_
      refine lv_topi (fun y_3 ey_3 => ?_)
      have i_3 : y_3.toInt = p0.toInt + 1 := ki_add ey_3 rfl rfl (om_13 w_1.1) (om_170 a1 w_1.2.1 w_1.2.2)
      refine lv_istore_n (lv' := [(3, .int y_3), (0, .ref h0), (1, .int p0), (2, .int p1)]) hx hb dX5_cut_19 rfl hl (by decide) rfl (fun ls hl => ?_)
      have n_s := ki_nat y_3 rfl (om_34 w_1.1 i_3)
      have LP1 : ∀ (n : Nat) (i : Int32), (p0.toInt + 1 ≤ i.toInt) → (∀ k : Nat, p0.toNatClampNeg + 1 ≤ k → k < i.toNatClampNeg → ¬ mj_cutP f p0.toNatClampNeg p1.toNatClampNeg k) → (i.toInt ≤ p1.toInt) → (p1.toInt - i.toInt).toNat < n → ∀ (H : Heap) (locs : List Loc), va_P (dC, dI) vwCl [kx_5 h0 g_row m_n m_slots 0 g_many g_loss g_less g_voteValue g_voteNumber g_allValue g_allNumber m_allMany g_nodeL g_nodeR m_nodes g_part m_partMany g_wasMany g_wasLoss g_wasValue g_wasNumber g_path m_pathMany g_heavyValue g_heavyTimes m_heavyMany g_fewest g_which g_met m_mostMet, kx_a g_row cyI 160 f] H → va_D A [kx_5 h0 g_row m_n m_slots 0 g_many g_loss g_less g_voteValue g_voteNumber g_allValue g_allNumber m_allMany g_nodeL g_nodeR m_nodes g_part m_partMany g_wasMany g_wasLoss g_wasValue g_wasNumber g_path m_pathMany g_heavyValue g_heavyTimes m_heavyMany g_fewest g_which g_met m_mostMet, kx_a g_row cyI 160 f] → va_S A s.heap H locs → ∀ (ls : Array Slot), lv_has ls 6 [(3, .int i), (0, .ref h0), (1, .int p0), (2, .int p1)] → W p l e (headSpec wsX5_cut ({ frames := 2, cells := 0, slots := 0, locals := 90 })).room s m ([.ref h0, .int p0, .int p1] : List Value).toArray below meth c H locs 0 0 (MQ below (va_Qi (fun (r : Int32) (_ : Unit) => ((0 ≤ p0.toInt ∧ p0.toInt < p1.toInt ∧ p1.toInt ≤ m_n.toInt) ∧ mj_first (mj_cutP f p0.toNatClampNeg p1.toNatClampNeg) (p0.toNatClampNeg + 1) p1.toNatClampNeg (-1) r.toInt) ∨ ((p0.toInt < 0 ∨ p1.toInt ≤ p0.toInt ∨ m_n.toInt < p1.toInt) ∧ r = -1)) (fun (_ : Unit) (t : State) => va_P (dC, dI) vwCl [kx_5 h0 g_row m_n m_slots 0 g_many g_loss g_less g_voteValue g_voteNumber g_allValue g_allNumber m_allMany g_nodeL g_nodeR m_nodes g_part m_partMany g_wasMany g_wasLoss g_wasValue g_wasNumber g_path m_pathMany g_heavyValue g_heavyTimes m_heavyMany g_fewest g_which g_met m_mostMet, kx_a g_row cyI 160 f] t.heap ∧ va_K (dC, dI) vwCl [(cyI, .int)] t ∧ va_D A [kx_5 h0 g_row m_n m_slots 0 g_many g_loss g_less g_voteValue g_voteNumber g_allValue g_allNumber m_allMany g_nodeL g_nodeR m_nodes g_part m_partMany g_wasMany g_wasLoss g_wasValue g_wasNumber g_path m_pathMany g_heavyValue g_heavyTimes m_heavyMany g_fewest g_which g_met m_mostMet, kx_a g_row cyI 160 f]) A) ([.ref h0, .int p0, .int p1] : List Value).toArray s 0 0 A) (F0 m 20 ls []) := by
        intro n
        induction n with
        | zero => intro i LP1_h0 LP1_h1 LP1_h2 hn; exact absurd hn (Nat.not_lt_zero _)
        | succ n ih1 =>
          intro i LP1_h0 LP1_h1 LP1_h2 hn1 H locs hP hD hS ls hl
          have n_i := ki_nat i rfl (om_486 w_1.1 LP1_h0)
          refine lv_iload_n hx hb dX5_cut_20 rfl (lv_at hl 0 rfl) ?_
          refine lv_iload_n hx hb dX5_cut_21 rfl (lv_at hl 3 rfl) ?_
          refine lv_icmp_ge (tgt := 70) hx hb dX5_cut_22 (by decide) (fun c_4 => ?_) (fun c_4 => ?_)
          · have i_4 : p1.toInt ≤ i.toInt := kc_le c_4
            refine lv_iconst (v := (-1)) hx hb dX5_cut_70 (by decide) ?_
            have hP9 := hP
            have hD9 := hD
            have hK9 := hK
            exact W.iret (v := (-1)) hx hb hr (hlocks := hlocks) (fun t ht hW => ⟨⟨(-1), (), rfl, (Or.inl ⟨(by (try dsimp only); omega), Or.inr ⟨rfl, fun k h1 hk => LP1_h1 k h1 (by (try dsimp only); omega)⟩⟩), by rw [ht]; exact hP9, va_K.moved hW.alike hK9, hD9⟩, hS.F ht⟩) hS.2.2 dX5_cut_71
          · have i_4 : i.toInt < p1.toInt := kc_nle c_4
            refine lv_aload_n hx hb dX5_cut_25 rfl (lv_at hl 1 rfl) ?_
            refine lv_iload_n hx hb dX5_cut_26 rfl (lv_at hl 2 rfl) ?_
            refine lv_iload_n hx hb dX5_cut_27 rfl (lv_at hl 0 rfl) ?_
            have hPc := hP
            have hKc := hK
            refine vp_callSi (W.runV (As := [.int p0, .int i]) (rest := []) ⟨hx, hb, hml, hown, hts⟩ (c_X5_majorityOf_x l dC dI h0 g_row g_many g_loss g_less g_voteValue g_voteNumber g_allValue g_allNumber g_nodeL g_nodeR g_part g_wasMany g_wasLoss g_wasValue g_wasNumber g_path g_heavyValue g_heavyTimes g_fewest g_which g_met m_n m_slots 0 m_allMany m_nodes m_partMany m_pathMany m_heavyMany m_mostMet cyI f p0 i (om_10 w_1.1) (om_171 a1 w_1.2.2 i_4) (om_487 LP1_h0)) (cwV 2 hts gX5_cut_X5_majorityOf rfl rfl rfl (by decide +kernel) ⟨Nat.le_of_ble_eq_true rfl, Nat.le_of_ble_eq_true rfl⟩) ⟨fun a U g mk q => by obtain ⟨q0, qP, qK⟩ := q; exact ⟨q0, qP, va_K.moved (u := U) (U := U.calling g mk a) (Vm.Alike.refl U.vm) qK⟩, kx_rc5 hKc hPc (q0 := 0) rfl, fun U hU hW => ⟨rfl, by rw [hU]; exact hPc, va_K.moved hW.alike hKc⟩⟩ rfl rfl hl.1 rfl (lv_room (Nat.le_of_ble_eq_true rfl)) dX5_cut_28 ⟨Nat.le_of_ble_eq_true rfl, Nat.le_of_ble_eq_true rfl⟩) (fun r_5 w_5 => ?_)
            have w_5 : mj_maj f p0.toNatClampNeg i.toNatClampNeg r_5 := w_5
            refine lv_istore (lv' := [(4, .int r_5), (3, .int i), (0, .ref h0), (1, .int p0), (2, .int p1)]) hx hb dX5_cut_31 hl (by decide) rfl (fun ls hl => ?_)
            refine lv_aload_n hx hb dX5_cut_33 rfl (lv_at hl 2 rfl) ?_
            refine lv_iload_n hx hb dX5_cut_34 rfl (lv_at hl 1 rfl) ?_
            refine lv_iload_n hx hb dX5_cut_35 rfl (lv_at hl 4 rfl) ?_
            have hPc := hP
            have hKc := hK
            refine vp_callSi (W.runV (As := [.int i, .int p1]) (rest := []) ⟨hx, hb, hml, hown, hts⟩ (c_X5_majorityOf_x l dC dI h0 g_row g_many g_loss g_less g_voteValue g_voteNumber g_allValue g_allNumber g_nodeL g_nodeR g_part g_wasMany g_wasLoss g_wasValue g_wasNumber g_path g_heavyValue g_heavyTimes g_fewest g_which g_met m_n m_slots 0 m_allMany m_nodes m_partMany m_pathMany m_heavyMany m_mostMet cyI f i p1 (om_486 w_1.1 LP1_h0) (om_167 a1 w_1.2.2) i_4) (cwV 2 hts gX5_cut_X5_majorityOf rfl rfl rfl (by decide +kernel) ⟨Nat.le_of_ble_eq_true rfl, Nat.le_of_ble_eq_true rfl⟩) ⟨fun a U g mk q => by obtain ⟨q0, qP, qK⟩ := q; exact ⟨q0, qP, va_K.moved (u := U) (U := U.calling g mk a) (Vm.Alike.refl U.vm) qK⟩, kx_rc5 hKc hPc (q0 := 0) rfl, fun U hU hW => ⟨rfl, by rw [hU]; exact hPc, va_K.moved hW.alike hKc⟩⟩ rfl rfl hl.1 rfl (lv_room (Nat.le_of_ble_eq_true rfl)) dX5_cut_36 ⟨Nat.le_of_ble_eq_true rfl, Nat.le_of_ble_eq_true rfl⟩) (fun r_6 w_6 => ?_)
            have w_6 : mj_maj f i.toNatClampNeg p1.toNatClampNeg r_6 := w_6
            refine lv_istore (lv' := [(5, .int r_6), (4, .int r_5), (3, .int i), (0, .ref h0), (1, .int p0), (2, .int p1)]) hx hb dX5_cut_39 hl (by decide) rfl (fun ls hl => ?_)
            refine lv_iload hx hb dX5_cut_41 (lv_at hl 1 rfl) ?_
            refine lv_ldc (v := (-40000)) hx hb hown hk_148 dX5_cut_43 ?_
            refine lv_icmp_eq (tgt := 64) hx hb dX5_cut_45 (by decide) (fun c_7 => ?_) (fun c_7 => ?_)
            · have i_7 : r_5.toInt = (-40000) := kc_eq c_7
              obtain ⟨x_8, ex_8⟩ : ∃ y : Int32, y = i + 1 := ⟨_, rfl⟩
              have i_8 : x_8.toInt = i.toInt + 1 := ki_add ex_8 rfl rfl (om_488 w_1.1 LP1_h0) (om_172 a1 w_1.2.2 i_4)
              refine lv_iinc (v := x_8) (lv' := [(3, .int x_8), (5, .int r_6), (4, .int r_5), (0, .ref h0), (1, .int p0), (2, .int p1)]) hx hb dX5_cut_64 hl (k := 2) rfl (by rw [ex_8]; rfl) (by decide) rfl (fun ls hl => ?_)
              refine lv_goto (tgt := 20) hx hb dX5_cut_67 (by decide) ?_
              have n_9 := ki_nat x_8 rfl (om_490 w_1.1 LP1_h0 i_8)
              exact ih1 x_8 (om_489 LP1_h0 i_8) (fun k h1 hk => if h9 : k < i.toNatClampNeg then LP1_h1 k h1 h9 else (by rw [show k = i.toNatClampNeg by omega]; exact mj_cut_no w_5 w_6 (Or.inl c_7))) (om_54 i_4 i_8) (om_mu hn1 (om_5 i_8) (om_6 i_4)) _ _ hP hD hS ls (lv_sub hl [0, 3, 4, 5] rfl)
            · have i_7 : ¬ r_5.toInt = (-40000) := kc_ne c_7
              refine lv_iload hx hb dX5_cut_48 (lv_at hl 0 rfl) ?_
              refine lv_ldc (v := (-40000)) hx hb hown hk_148 dX5_cut_50 ?_
              refine lv_icmp_eq (tgt := 64) hx hb dX5_cut_52 (by decide) (fun c_10 => ?_) (fun c_10 => ?_)
              · have i_10 : r_6.toInt = (-40000) := kc_eq c_10
                obtain ⟨x_11, ex_11⟩ : ∃ y : Int32, y = i + 1 := ⟨_, rfl⟩
                have i_11 : x_11.toInt = i.toInt + 1 := ki_add ex_11 rfl rfl (om_488 w_1.1 LP1_h0) (om_172 a1 w_1.2.2 i_4)
                refine lv_iinc (v := x_11) (lv' := [(3, .int x_11), (5, .int r_6), (4, .int r_5), (0, .ref h0), (1, .int p0), (2, .int p1)]) hx hb dX5_cut_64 hl (k := 2) rfl (by rw [ex_11]; rfl) (by decide) rfl (fun ls hl => ?_)
                refine lv_goto (tgt := 20) hx hb dX5_cut_67 (by decide) ?_
                have n_12 := ki_nat x_11 rfl (om_490 w_1.1 LP1_h0 i_11)
                exact ih1 x_11 (om_489 LP1_h0 i_11) (fun k h1 hk => if h9 : k < i.toNatClampNeg then LP1_h1 k h1 h9 else (by rw [show k = i.toNatClampNeg by omega]; exact mj_cut_no w_5 w_6 (Or.inr (Or.inl c_10)))) (om_54 i_4 i_11) (om_mu hn1 (om_5 i_11) (om_6 i_4)) _ _ hP hD hS ls (lv_sub hl [0, 3, 4, 5] rfl)
              · have i_10 : ¬ r_6.toInt = (-40000) := kc_ne c_10
                refine lv_iload hx hb dX5_cut_55 (lv_at hl 1 rfl) ?_
                refine lv_iload hx hb dX5_cut_57 (lv_at hl 0 rfl) ?_
                refine lv_icmp_eq (tgt := 64) hx hb dX5_cut_59 (by decide) (fun c_13 => ?_) (fun c_13 => ?_)
                · have i_13 : r_5.toInt = r_6.toInt := kc_eq c_13
                  obtain ⟨x_14, ex_14⟩ : ∃ y : Int32, y = i + 1 := ⟨_, rfl⟩
                  have i_14 : x_14.toInt = i.toInt + 1 := ki_add ex_14 rfl rfl (om_488 w_1.1 LP1_h0) (om_172 a1 w_1.2.2 i_4)
                  refine lv_iinc (v := x_14) (lv' := [(3, .int x_14), (5, .int r_6), (4, .int r_5), (0, .ref h0), (1, .int p0), (2, .int p1)]) hx hb dX5_cut_64 hl (k := 2) rfl (by rw [ex_14]; rfl) (by decide) rfl (fun ls hl => ?_)
                  refine lv_goto (tgt := 20) hx hb dX5_cut_67 (by decide) ?_
                  have n_15 := ki_nat x_14 rfl (om_490 w_1.1 LP1_h0 i_14)
                  exact ih1 x_14 (om_489 LP1_h0 i_14) (fun k h1 hk => if h9 : k < i.toNatClampNeg then LP1_h1 k h1 h9 else (by rw [show k = i.toNatClampNeg by omega]; exact mj_cut_no w_5 w_6 (Or.inr (Or.inr c_13)))) (om_54 i_4 i_14) (om_mu hn1 (om_5 i_14) (om_6 i_4)) _ _ hP hD hS ls (lv_sub hl [0, 3, 4, 5] rfl)
                · have i_13 : ¬ r_5.toInt = r_6.toInt := kc_ne c_13
                  refine lv_iload_n hx hb dX5_cut_62 rfl (lv_at hl 2 rfl) ?_
                  have hP9 := hP
                  have hD9 := hD
                  have hK9 := hK
                  exact W.iret (v := i) hx hb hr (hlocks := hlocks) (fun t ht hW => ⟨⟨i, (), rfl, (Or.inl ⟨(by (try dsimp only); omega), Or.inl ⟨i.toNatClampNeg, (by (try dsimp only); omega), (by (try dsimp only); omega), ⟨_, _, w_5, w_6, c_7, c_10, c_13⟩, (by (try dsimp only); omega), fun k h1 hk => LP1_h1 k h1 hk⟩⟩), by rw [ht]; exact hP9, va_K.moved hW.alike hK9, hD9⟩, hS.F ht⟩) hS.2.2 dX5_cut_63
      exact LP1 ((p1.toInt - y_3.toInt : Int).toNat + 1) y_3 (om_491 i_3) (fun k h1 hk => absurd hk (by omega)) (om_54 w_1.2.1 i_3) (Nat.lt_succ_self _) _ _ hP hD hS ls (lv_sub hl [0, 1, 2, 3] rfl)
    · exact absurd c_2 (by decide)
  · have w_1 : (p0.toInt < 0 ∨ p1.toInt ≤ p0.toInt ∨ m_n.toInt < p1.toInt) := w_1
    refine lv_if_ne (tgt := 16) hx hb dX5_cut_11 (by decide) (fun c_16 => ?_) (fun c_16 => ?_)
    · exact absurd c_16 (by decide)
    · refine lv_iconst (v := (-1)) hx hb dX5_cut_14 (by decide) ?_
      have hP9 := hP
      have hD9 := hD
      have hK9 := hK
      exact W.iret (v := (-1)) hx hb hr (hlocks := hlocks) (fun t ht hW => ⟨⟨(-1), (), rfl, (Or.inr ⟨(by (try dsimp only); omega), rfl⟩), by rw [ht]; exact hP9, va_K.moved hW.alike hK9, hD9⟩, hS.F ht⟩) hS.2.2 dX5_cut_15

set_option maxHeartbeats 4000000 in
set_option maxRecDepth 100000 in
theorem c_X5_would_x (l : Launch) (dC : Nat → ClassId) (dI : Nat → Nat → Nat) (h0 : Nat) (g_row : Nat) (g_many : Nat) (g_loss : Nat) (g_less : Nat) (g_voteValue : Nat) (g_voteNumber : Nat) (g_allValue : Nat) (g_allNumber : Nat) (g_nodeL : Nat) (g_nodeR : Nat) (g_part : Nat) (g_wasMany : Nat) (g_wasLoss : Nat) (g_wasValue : Nat) (g_wasNumber : Nat) (g_path : Nat) (g_heavyValue : Nat) (g_heavyTimes : Nat) (g_fewest : Nat) (g_which : Nat) (g_met : Nat) (m_n : Int32) (m_slots : Int32) (m_thrown : Int32) (m_allMany : Int32) (m_nodes : Int32) (m_partMany : Int32) (m_pathMany : Int32) (m_heavyMany : Int32) (m_mostMet : Int32) (cyI : ClassId) (f : Nat → Int32) (p0 : Int32) (p1 : Int32) (p2 : Int32) (p3 : Int32) (sz : Nat) (a0 : 0 ≤ m_n.toInt) (a1 : m_n.toInt ≤ 160) : kx_MQ l (dC, dI) yX5_would wsX5_would ({ frames := 2, cells := 0, slots := 0, locals := 90 }) [.ref h0, .int p0, .int p1, .int p2, .int p3] [kx_5 h0 g_row m_n m_slots m_thrown g_many g_loss g_less g_voteValue g_voteNumber g_allValue g_allNumber m_allMany g_nodeL g_nodeR m_nodes g_part m_partMany g_wasMany g_wasLoss g_wasValue g_wasNumber g_path m_pathMany g_heavyValue g_heavyTimes m_heavyMany g_fewest g_which g_met m_mostMet, kx_a g_row cyI 160 f] [(cyI, .int)] sz (fun A => va_Qi (fun (r : Int32) (u : (Nat → Int32)) => (((0 ≤ p0.toInt ∧ p0.toInt < m_n.toInt ∧ -32768 ≤ p1.toInt ∧ p1.toInt ≤ 32767 ∧ 0 ≤ p2.toInt ∧ p2.toInt < p3.toInt ∧ p3.toInt ≤ m_n.toInt) ∧ mj_maj (upd f p0.toNatClampNeg p1) p2.toNatClampNeg p3.toNatClampNeg r) ∨ ((p0.toInt < 0 ∨ m_n.toInt ≤ p0.toInt ∨ p1.toInt < -32768 ∨ 32767 < p1.toInt ∨ p2.toInt < 0 ∨ p3.toInt ≤ p2.toInt ∨ m_n.toInt < p3.toInt) ∧ r = -40000)) ∧ u = f) (fun (u : (Nat → Int32)) (t : State) => va_P (dC, dI) vwCl [kx_5 h0 g_row m_n m_slots 0 g_many g_loss g_less g_voteValue g_voteNumber g_allValue g_allNumber m_allMany g_nodeL g_nodeR m_nodes g_part m_partMany g_wasMany g_wasLoss g_wasValue g_wasNumber g_path m_pathMany g_heavyValue g_heavyTimes m_heavyMany g_fewest g_which g_met m_mostMet, kx_a g_row cyI 160 u] t.heap ∧ va_K (dC, dI) vwCl [(cyI, .int)] t ∧ va_D A [kx_5 h0 g_row m_n m_slots 0 g_many g_loss g_less g_voteValue g_voteNumber g_allValue g_allNumber m_allMany g_nodeL g_nodeR m_nodes g_part m_partMany g_wasMany g_wasLoss g_wasValue g_wasNumber g_path m_pathMany g_heavyValue g_heavyTimes m_heavyMany g_fewest g_which g_met m_mostMet, kx_a g_row cyI 160 u]) A) := by
  refine kx_stQ (ws := wsX5_would) (cc := cX5_would) (maxL := 7) (ret := (some .int)) (by decide) rfl (Nat.le_of_ble_eq_true rfl) ?_
  intro p e s m below meth c A ls hx hb hr hlocks hts hown hml hA hS hP hK hD hl
  have hown : s.vm.findClass RX5 = some m.cls := hown
  have hl : lv_has ls 7 [(0, .ref h0), (1, .int p0), (2, .int p1), (3, .int p2), (4, .int p3)] := hl
  have hf_77 := hts (.fieldLink RX5 77 "MajorityIndexModel" "thrown" "I") (List.mem_of_getElem? (i := 1) rfl)
  have hi_5 : ∀ w ∈ u_ws RX5 TX5 30, w ∈ wsX5_would := fun w h => List.mem_cons_of_mem _ (List.mem_append_right _ h)
  have hf_7 := hts (.fieldLink RX5 7 "MajorityIndexModel" "row" "[I") (List.mem_of_getElem? (i := 3) rfl)
  have hk_148 := hts (.constant RX5 148 (-40000)) (List.mem_of_getElem? (i := 2) rfl)
  refine lv_aload_n hx hb dX5_would_0 rfl (lv_at hl 0 rfl) ?_
  refine lv_iconst (v := 0) hx hb dX5_would_1 (by decide) ?_
  refine va_put (D := (dC, dI)) (ci := 5) (v := .int 0) (ty := .int) (C := RX5) (T := TX5) (N := 30) hx hb hts hi_5 tyX5 tyX5_ok nmX5 hown hK hP hD hS 0 rfl rfl 3 (by decide) hf_77 (fun _ h9 => h9) rfl (by decide +kernel) rfl rfl (Nat.le_of_ble_eq_true rfl) dX5_would_2 (fun H locs hP hD hS => ?_)
  obtain ⟨hP, hD⟩ := kx_re (w2 := [kx_5 h0 g_row m_n m_slots 0 g_many g_loss g_less g_voteValue g_voteNumber g_allValue g_allNumber m_allMany g_nodeL g_nodeR m_nodes g_part m_partMany g_wasMany g_wasLoss g_wasValue g_wasNumber g_path m_pathMany g_heavyValue g_heavyTimes m_heavyMany g_fewest g_which g_met m_mostMet, kx_a g_row cyI 160 f]) hP hD rfl
  refine lv_aload_n hx hb dX5_would_5 rfl (lv_at hl 0 rfl) ?_
  refine lv_iload_n hx hb dX5_would_6 rfl (lv_at hl 1 rfl) ?_
  have hPc := hP.sub (ws' := [kx_5 h0 g_row m_n m_slots 0 g_many g_loss g_less g_voteValue g_voteNumber g_allValue g_allNumber m_allMany g_nodeL g_nodeR m_nodes g_part m_partMany g_wasMany g_wasLoss g_wasValue g_wasNumber g_path m_pathMany g_heavyValue g_heavyTimes m_heavyMany g_fewest g_which g_met m_mostMet]) [0] rfl
  have hKc := hK.sub (tys' := []) [] rfl
  refine vp_callSi (W.runV (As := [.int p0]) (rest := []) ⟨hx, hb, hml, hown, hts⟩ (c_X5_isPlace l dC dI h0 g_row g_many g_loss g_less g_voteValue g_voteNumber g_allValue g_allNumber g_nodeL g_nodeR g_part g_wasMany g_wasLoss g_wasValue g_wasNumber g_path g_heavyValue g_heavyTimes g_fewest g_which g_met m_n m_slots 0 m_allMany m_nodes m_partMany m_pathMany m_heavyMany m_mostMet p0 a0 a1) (cwV 1 hts gX5_would_X5_isPlace rfl rfl rfl (by decide +kernel) ⟨Nat.le_of_ble_eq_true rfl, Nat.le_of_ble_eq_true rfl⟩) ⟨fun a U g mk q => by obtain ⟨q0, qP, qK⟩ := q; exact ⟨q0, qP, va_K.moved (u := U) (U := U.calling g mk a) (Vm.Alike.refl U.vm) qK⟩, kx_rc5 hKc hPc (q0 := 0) rfl, fun U hU hW => ⟨rfl, by rw [hU]; exact hPc, va_K.moved hW.alike hKc⟩⟩ rfl rfl hl.1 rfl (lv_room (Nat.le_of_ble_eq_true rfl)) dX5_would_7 ⟨Nat.le_of_ble_eq_true rfl, Nat.le_of_ble_eq_true rfl⟩) (fun r_1 w_1 => ?_)
  rcases w_1 with ⟨rfl, w_1⟩ | ⟨rfl, w_1⟩
  · have w_1 : (0 ≤ p0.toInt ∧ p0.toInt < m_n.toInt) := w_1
    refine lv_if_eq (tgt := 30) hx hb dX5_would_10 (by decide) (fun c_2 => ?_) (fun c_2 => ?_)
    · exact absurd c_2 (by decide)
    · refine lv_iload_n hx hb dX5_would_13 rfl (lv_at hl 2 rfl) ?_
      have hPc := hP.sub (ws' := []) [] rfl
      have hKc := hK.sub (tys' := []) [] rfl
      refine vp_callSi (W.runS (As := [.int p1]) (rest := []) ⟨hx, hb, hml, hown, hts⟩ (c_X5_isValue l dC dI p1) (va_cwS 1 hts gX5_would_X5_isValue rfl rfl rfl (by decide +kernel) ⟨Nat.le_of_ble_eq_true rfl, Nat.le_of_ble_eq_true rfl⟩) ⟨fun a U g mk q => by obtain ⟨q0, qP, qK⟩ := q; exact ⟨q0, qP, va_K.moved (u := U) (U := U.calling g mk a) (Vm.Alike.refl U.vm) qK⟩, fun U hU hW => ⟨rfl, by rw [hU]; exact hPc, va_K.moved hW.alike hKc⟩⟩ rfl rfl hl.1 rfl (lv_room (Nat.le_of_ble_eq_true rfl)) dX5_would_14 ⟨Nat.le_of_ble_eq_true rfl, Nat.le_of_ble_eq_true rfl⟩) (fun r_3 w_3 => ?_)
      rcases w_3 with ⟨rfl, w_3⟩ | ⟨rfl, w_3⟩
      · have w_3 : (-32768 ≤ p1.toInt ∧ p1.toInt ≤ 32767) := w_3
        refine lv_if_eq (tgt := 30) hx hb dX5_would_17 (by decide) (fun c_4 => ?_) (fun c_4 => ?_)
        · exact absurd c_4 (by decide)
        · refine lv_aload_n hx hb dX5_would_20 rfl (lv_at hl 0 rfl) ?_
          refine lv_iload_n hx hb dX5_would_21 rfl (lv_at hl 3 rfl) ?_
          refine lv_iload hx hb dX5_would_22 (lv_at hl 4 rfl) ?_
          have hPc := hP.sub (ws' := [kx_5 h0 g_row m_n m_slots 0 g_many g_loss g_less g_voteValue g_voteNumber g_allValue g_allNumber m_allMany g_nodeL g_nodeR m_nodes g_part m_partMany g_wasMany g_wasLoss g_wasValue g_wasNumber g_path m_pathMany g_heavyValue g_heavyTimes m_heavyMany g_fewest g_which g_met m_mostMet]) [0] rfl
          have hKc := hK.sub (tys' := []) [] rfl
          refine vp_callSi (W.runV (As := [.int p2, .int p3]) (rest := []) ⟨hx, hb, hml, hown, hts⟩ (c_X5_isRange l dC dI h0 g_row g_many g_loss g_less g_voteValue g_voteNumber g_allValue g_allNumber g_nodeL g_nodeR g_part g_wasMany g_wasLoss g_wasValue g_wasNumber g_path g_heavyValue g_heavyTimes g_fewest g_which g_met m_n m_slots 0 m_allMany m_nodes m_partMany m_pathMany m_heavyMany m_mostMet p2 p3) (cwV 2 hts gX5_would_X5_isRange rfl rfl rfl (by decide +kernel) ⟨Nat.le_of_ble_eq_true rfl, Nat.le_of_ble_eq_true rfl⟩) ⟨fun a U g mk q => by obtain ⟨q0, qP, qK⟩ := q; exact ⟨q0, qP, va_K.moved (u := U) (U := U.calling g mk a) (Vm.Alike.refl U.vm) qK⟩, kx_rc5 hKc hPc (q0 := 0) rfl, fun U hU hW => ⟨rfl, by rw [hU]; exact hPc, va_K.moved hW.alike hKc⟩⟩ rfl rfl hl.1 rfl (lv_room (Nat.le_of_ble_eq_true rfl)) dX5_would_24 ⟨Nat.le_of_ble_eq_true rfl, Nat.le_of_ble_eq_true rfl⟩) (fun r_5 w_5 => ?_)
          rcases w_5 with ⟨rfl, w_5⟩ | ⟨rfl, w_5⟩
          · have w_5 : (0 ≤ p2.toInt ∧ p2.toInt < p3.toInt ∧ p3.toInt ≤ m_n.toInt) := w_5
            refine lv_if_ne (tgt := 33) hx hb dX5_would_27 (by decide) (fun c_6 => ?_) (fun c_6 => ?_)
            · refine lv_aload_n hx hb dX5_would_33 rfl (lv_at hl 0 rfl) ?_
              refine va_get (D := (dC, dI)) (ci := 5) (v := .ref g_row) (C := RX5) (T := TX5) (N := 30) hx hb hts hi_5 hown hK hP 0 rfl rfl 0 (by decide) hf_7 (fun _ h9 => h9) rfl dX5_would_34 ?_
              refine lv_iload_n hx hb dX5_would_37 rfl (lv_at hl 1 rfl) ?_
              refine va_iald hx hb hK hP 1 0 rfl rfl (ki_in (om_10 w_1.1) (om_1 a1 w_1.2)) dX5_would_38 ?_
              refine lv_topi (fun y_7 ey_7 => ?_)
              have j_7 : y_7.toInt = (f p0.toNatClampNeg).toInt := congrArg Int32.toInt ey_7
              refine lv_istore (lv' := [(5, .int y_7), (0, .ref h0), (1, .int p0), (2, .int p1), (3, .int p2), (4, .int p3)]) hx hb dX5_would_39 hl (by decide) rfl (fun ls hl => ?_)
              refine lv_aload_n hx hb dX5_would_41 rfl (lv_at hl 1 rfl) ?_
              refine va_get (D := (dC, dI)) (ci := 5) (v := .ref g_row) (C := RX5) (T := TX5) (N := 30) hx hb hts hi_5 hown hK hP 0 rfl rfl 0 (by decide) hf_7 (fun _ h9 => h9) rfl dX5_would_42 ?_
              refine lv_iload_n hx hb dX5_would_45 rfl (lv_at hl 2 rfl) ?_
              refine lv_iload_n hx hb dX5_would_46 rfl (lv_at hl 3 rfl) ?_
              refine va_iast hx hb hK hP hD hS 1 0 rfl rfl (ki_in (om_10 w_1.1) (om_1 a1 w_1.2)) dX5_would_47 (fun H locs hP hD hS => ?_)
              obtain ⟨hP, hD⟩ := kx_re (w2 := [kx_5 h0 g_row m_n m_slots 0 g_many g_loss g_less g_voteValue g_voteNumber g_allValue g_allNumber m_allMany g_nodeL g_nodeR m_nodes g_part m_partMany g_wasMany g_wasLoss g_wasValue g_wasNumber g_path m_pathMany g_heavyValue g_heavyTimes m_heavyMany g_fewest g_which g_met m_mostMet, kx_a g_row cyI 160 (upd f p0.toNatClampNeg p1)]) hP hD rfl
              refine lv_aload_n hx hb dX5_would_48 rfl (lv_at hl 1 rfl) ?_
              refine lv_iload_n hx hb dX5_would_49 rfl (lv_at hl 4 rfl) ?_
              refine lv_iload hx hb dX5_would_50 (lv_at hl 5 rfl) ?_
              have hPc := hP
              have hKc := hK
              refine vp_callSi (W.runV (As := [.int p2, .int p3]) (rest := []) ⟨hx, hb, hml, hown, hts⟩ (c_X5_majorityOf_x l dC dI h0 g_row g_many g_loss g_less g_voteValue g_voteNumber g_allValue g_allNumber g_nodeL g_nodeR g_part g_wasMany g_wasLoss g_wasValue g_wasNumber g_path g_heavyValue g_heavyTimes g_fewest g_which g_met m_n m_slots 0 m_allMany m_nodes m_partMany m_pathMany m_heavyMany m_mostMet cyI (upd f p0.toNatClampNeg p1) p2 p3 (om_10 w_5.1) (om_167 a1 w_5.2.2) (om_11 w_5.2.1)) (cwV 2 hts gX5_would_X5_majorityOf rfl rfl rfl (by decide +kernel) ⟨Nat.le_of_ble_eq_true rfl, Nat.le_of_ble_eq_true rfl⟩) ⟨fun a U g mk q => by obtain ⟨q0, qP, qK⟩ := q; exact ⟨q0, qP, va_K.moved (u := U) (U := U.calling g mk a) (Vm.Alike.refl U.vm) qK⟩, kx_rc5 hKc hPc (q0 := 0) rfl, fun U hU hW => ⟨rfl, by rw [hU]; exact hPc, va_K.moved hW.alike hKc⟩⟩ rfl rfl hl.1 rfl (lv_room (Nat.le_of_ble_eq_true rfl)) dX5_would_52 ⟨Nat.le_of_ble_eq_true rfl, Nat.le_of_ble_eq_true rfl⟩) (fun r_8 w_8 => ?_)
              have w_8 : mj_maj (upd f p0.toNatClampNeg p1) p2.toNatClampNeg p3.toNatClampNeg r_8 := w_8
              refine lv_istore (lv' := [(6, .int r_8), (5, .int y_7), (0, .ref h0), (1, .int p0), (2, .int p1), (3, .int p2), (4, .int p3)]) hx hb dX5_would_55 hl (by decide) rfl (fun ls hl => ?_)
              refine lv_aload_n hx hb dX5_would_57 rfl (lv_at hl 2 rfl) ?_
              refine va_get (D := (dC, dI)) (ci := 5) (v := .ref g_row) (C := RX5) (T := TX5) (N := 30) hx hb hts hi_5 hown hK hP 0 rfl rfl 0 (by decide) hf_7 (fun _ h9 => h9) rfl dX5_would_58 ?_
              refine lv_iload_n hx hb dX5_would_61 rfl (lv_at hl 3 rfl) ?_
              refine lv_iload hx hb dX5_would_62 (lv_at hl 1 rfl) ?_
              refine va_iast hx hb hK hP hD hS 1 0 rfl rfl (ki_in (om_10 w_1.1) (om_1 a1 w_1.2)) dX5_would_64 (fun H locs hP hD hS => ?_)
              obtain ⟨hP, hD⟩ := kx_re (w2 := [kx_5 h0 g_row m_n m_slots 0 g_many g_loss g_less g_voteValue g_voteNumber g_allValue g_allNumber m_allMany g_nodeL g_nodeR m_nodes g_part m_partMany g_wasMany g_wasLoss g_wasValue g_wasNumber g_path m_pathMany g_heavyValue g_heavyTimes m_heavyMany g_fewest g_which g_met m_mostMet, kx_a g_row cyI 160 (upd (upd f p0.toNatClampNeg p1) p0.toNatClampNeg y_7)]) hP hD rfl
              refine lv_iload hx hb dX5_would_65 (lv_at hl 0 rfl) ?_
              have hP9 := hP
              have hD9 := hD
              have hK9 := hK
              exact W.iret (v := r_8) hx hb hr (hlocks := hlocks) (fun t ht hW => ⟨⟨r_8, ((upd (upd f p0.toNatClampNeg p1) p0.toNatClampNeg y_7)), rfl, ⟨Or.inl ⟨(by (try dsimp only); omega), w_8⟩, (by (try dsimp only); rw [ey_7]; exact upd_back _ _ _)⟩, by rw [ht]; exact hP9, va_K.moved hW.alike hK9, hD9⟩, hS.F ht⟩) hS.2.2 dX5_would_67
            · exact absurd c_6 (by decide)
          · have w_5 : (p2.toInt < 0 ∨ p3.toInt ≤ p2.toInt ∨ m_n.toInt < p3.toInt) := w_5
            refine lv_if_ne (tgt := 33) hx hb dX5_would_27 (by decide) (fun c_9 => ?_) (fun c_9 => ?_)
            · exact absurd c_9 (by decide)
            · refine lv_ldc (v := (-40000)) hx hb hown hk_148 dX5_would_30 ?_
              have hP9 := hP
              have hD9 := hD
              have hK9 := hK
              exact W.iret (v := (-40000)) hx hb hr (hlocks := hlocks) (fun t ht hW => ⟨⟨(-40000), (f), rfl, ⟨Or.inr ⟨(by (try dsimp only); omega), rfl⟩, rfl⟩, by rw [ht]; exact hP9, va_K.moved hW.alike hK9, hD9⟩, hS.F ht⟩) hS.2.2 dX5_would_32
      · have w_3 : (p1.toInt < -32768 ∨ 32767 < p1.toInt) := w_3
        refine lv_if_eq (tgt := 30) hx hb dX5_would_17 (by decide) (fun c_10 => ?_) (fun c_10 => ?_)
        · refine lv_ldc (v := (-40000)) hx hb hown hk_148 dX5_would_30 ?_
          have hP9 := hP
          have hD9 := hD
          have hK9 := hK
          exact W.iret (v := (-40000)) hx hb hr (hlocks := hlocks) (fun t ht hW => ⟨⟨(-40000), (f), rfl, ⟨Or.inr ⟨(by (try dsimp only); omega), rfl⟩, rfl⟩, by rw [ht]; exact hP9, va_K.moved hW.alike hK9, hD9⟩, hS.F ht⟩) hS.2.2 dX5_would_32
        · exact absurd c_10 (by decide)
  · have w_1 : (p0.toInt < 0 ∨ m_n.toInt ≤ p0.toInt) := w_1
    refine lv_if_eq (tgt := 30) hx hb dX5_would_10 (by decide) (fun c_11 => ?_) (fun c_11 => ?_)
    · refine lv_ldc (v := (-40000)) hx hb hown hk_148 dX5_would_30 ?_
      have hP9 := hP
      have hD9 := hD
      have hK9 := hK
      exact W.iret (v := (-40000)) hx hb hr (hlocks := hlocks) (fun t ht hW => ⟨⟨(-40000), (f), rfl, ⟨Or.inr ⟨(by (try dsimp only); omega), rfl⟩, rfl⟩, by rw [ht]; exact hP9, va_K.moved hW.alike hK9, hD9⟩, hS.F ht⟩) hS.2.2 dX5_would_32
    · exact absurd c_11 (by decide)



set_option maxHeartbeats 4000000 in
set_option maxRecDepth 100000 in
theorem c_X0_firstLike_x (l : Launch) (dC : Nat → ClassId) (dI : Nat → Nat → Nat) (h0 : Nat) (h1 : Nat) (cyI : ClassId) (len : Int32) (f : Nat → Int32) (p0 : Int32) (b0 : 0 ≤ p0.toInt) (b1 : p0.toInt < 160) : Met l yX0_firstLike wsX0_firstLike ({ frames := 0, cells := 0, slots := 0, locals := 0 }) (va_Pc [.ref h0, .int p0] (fun U => va_P (dC, dI) vwCl [kx_0 h0 h1 len, kx_a h1 cyI 160 f] U.heap ∧ va_K (dC, dI) vwCl [(cyI, .int)] U)) (vp_Si (fun r : Int32 => 0 ≤ r.toInt ∧ r.toInt ≤ p0.toInt ∧ f r.toNatClampNeg = f p0.toNatClampNeg ∧ ∀ j : Nat, j < r.toNatClampNeg → ¬ f j = f p0.toNatClampNeg)) 0 0 (fun _ => False) := by
  refine kx_stS (ws := wsX0_firstLike) (cc := cX0_firstLike) (maxL := 3) (ret := (some .int)) (by decide) rfl (Nat.le_of_ble_eq_true rfl) ?_
  intro p e s m below meth c ls hx hb hr hlocks hts hown hml hP hK hl
  have hown : s.vm.findClass RX0 = some m.cls := hown
  have hl : lv_has ls 3 [(0, .ref h0), (1, .int p0)] := hl
  have hf_9 := hts (.fieldLink RX0 9 "MajorityIndex$Row" "cell" "[I") (List.mem_of_getElem? (i := 1) rfl)
  have hi_0 : ∀ w ∈ u_ws RX0 TX0 2, w ∈ wsX0_firstLike := fun w h => List.mem_cons_of_mem _ (List.mem_append_right _ h)
  refine lv_iconst (v := 0) hx hb dX0_firstLike_0 (by decide) ?_
  refine lv_istore_n (lv' := [(2, .int 0), (0, .ref h0), (1, .int p0)]) hx hb dX0_firstLike_1 rfl hl (by decide) rfl (fun ls hl => ?_)
  have LP1 : ∀ (n : Nat) (i : Int32), (0 ≤ i.toInt) → (∀ j : Nat, j < i.toNatClampNeg → ¬ f j = f p0.toNatClampNeg) → (i.toInt ≤ p0.toInt) → (p0.toInt - i.toInt).toNat < n → ∀ (ls : Array Slot), lv_has ls 3 [(2, .int i), (0, .ref h0), (1, .int p0)] → W p l e (headSpec wsX0_firstLike ({ frames := 0, cells := 0, slots := 0, locals := 0 })).room s m ([.ref h0, .int p0] : List Value).toArray below meth c s.heap [] 0 0 (MQ below (vp_Si (fun r : Int32 => 0 ≤ r.toInt ∧ r.toInt ≤ p0.toInt ∧ f r.toNatClampNeg = f p0.toNatClampNeg ∧ ∀ j : Nat, j < r.toNatClampNeg → ¬ f j = f p0.toNatClampNeg)) ([.ref h0, .int p0] : List Value).toArray s 0 0 (fun _ => False)) (F0 m 2 ls []) := by
    intro n
    induction n with
    | zero => intro i LP1_h0 LP1_h1 LP1_h2 hn; exact absurd hn (Nat.not_lt_zero _)
    | succ n ih1 =>
      intro i LP1_h0 LP1_h1 LP1_h2 hn1 ls hl
      have n_i := ki_nat i rfl (om_10 LP1_h0)
      have n_p0 := ki_nat p0 rfl (om_10 b0)
      refine lv_iload_n hx hb dX0_firstLike_2 rfl (lv_at hl 0 rfl) ?_
      refine lv_iload_n hx hb dX0_firstLike_3 rfl (lv_at hl 2 rfl) ?_
      refine lv_icmp_ge (tgt := 30) hx hb dX0_firstLike_4 (by decide) (fun c_1 => ?_) (fun c_1 => ?_)
      · have i_1 : p0.toInt ≤ i.toInt := kc_le c_1
        refine lv_iload_n hx hb dX0_firstLike_30 rfl (lv_at hl 2 rfl) ?_
        exact W.iret (v := p0) hx hb hr (hlocks := hlocks) (fun t ht hW => ⟨p0, rfl, ⟨(by (try dsimp only); omega), (by (try dsimp only); omega), rfl, fun j hj => LP1_h1 j (by (try dsimp only); omega)⟩, ht⟩) (fun q hq => by cases hq) dX0_firstLike_31
      · have i_1 : i.toInt < p0.toInt := kc_nle c_1
        refine lv_aload_n hx hb dX0_firstLike_7 rfl (lv_at hl 1 rfl) ?_
        refine va_get (D := (dC, dI)) (ci := 0) (v := .ref h1) (C := RX0) (T := TX0) (N := 2) hx hb hts hi_0 hown hK hP 0 rfl rfl 0 (by decide) hf_9 (fun _ h9 => h9) rfl dX0_firstLike_8 ?_
        refine lv_iload_n hx hb dX0_firstLike_11 rfl (lv_at hl 0 rfl) ?_
        refine va_iald hx hb hK hP 1 0 rfl rfl (ki_in (om_10 LP1_h0) (om_22 b1 LP1_h2)) dX0_firstLike_12 ?_
        refine lv_topi (fun y_2 ey_2 => ?_)
        have j_2 : y_2.toInt = (f i.toNatClampNeg).toInt := congrArg Int32.toInt ey_2
        refine lv_aload_n hx hb dX0_firstLike_13 rfl (lv_at hl 1 rfl) ?_
        refine va_get (D := (dC, dI)) (ci := 0) (v := .ref h1) (C := RX0) (T := TX0) (N := 2) hx hb hts hi_0 hown hK hP 0 rfl rfl 0 (by decide) hf_9 (fun _ h9 => h9) rfl dX0_firstLike_14 ?_
        refine lv_iload_n hx hb dX0_firstLike_17 rfl (lv_at hl 2 rfl) ?_
        refine va_iald hx hb hK hP 1 0 rfl rfl (ki_in (om_10 b0) (om_12 b1)) dX0_firstLike_18 ?_
        refine lv_topi (fun y_3 ey_3 => ?_)
        have j_3 : y_3.toInt = (f p0.toNatClampNeg).toInt := congrArg Int32.toInt ey_3
        refine lv_icmp_ne (tgt := 24) hx hb dX0_firstLike_19 (by decide) (fun c_4 => ?_) (fun c_4 => ?_)
        · have i_4 : ¬ y_2.toInt = y_3.toInt := kc_ne c_4
          obtain ⟨x_5, ex_5⟩ : ∃ y : Int32, y = i + 1 := ⟨_, rfl⟩
          have i_5 : x_5.toInt = i.toInt + 1 := ki_add ex_5 rfl rfl (om_13 LP1_h0) (om_492 b1 LP1_h2)
          refine lv_iinc (v := x_5) (lv' := [(2, .int x_5), (0, .ref h0), (1, .int p0)]) hx hb dX0_firstLike_24 hl (k := 0) rfl (by rw [ex_5]; rfl) (by decide) rfl (fun ls hl => ?_)
          refine lv_goto (tgt := 2) hx hb dX0_firstLike_27 (by decide) ?_
          have n_6 := ki_nat x_5 rfl (om_34 LP1_h0 i_5)
          exact ih1 x_5 (om_34 LP1_h0 i_5) (fun j hj => if h9 : j < i.toNatClampNeg then LP1_h1 j h9 else (by rw [show j = i.toNatClampNeg by omega, ← ey_2, ← ey_3]; exact c_4)) (om_54 i_1 i_5) (om_mu hn1 (om_5 i_5) (om_6 i_1)) ls (lv_sub hl [0, 1, 2] rfl)
        · have i_4 : y_2.toInt = y_3.toInt := kc_eq c_4
          refine lv_iload_n hx hb dX0_firstLike_22 rfl (lv_at hl 0 rfl) ?_
          exact W.iret (v := i) hx hb hr (hlocks := hlocks) (fun t ht hW => ⟨i, rfl, ⟨(by (try dsimp only); omega), (by (try dsimp only); omega), (by (try dsimp only); rw [← ey_2, ← ey_3]; exact c_4), fun j hj => LP1_h1 j hj⟩, ht⟩) (fun q hq => by cases hq) dX0_firstLike_23
  have k_7 : (0 : Int32).toInt = 0 := rfl
  exact LP1 ((p0.toInt - 0 : Int).toNat + 1) 0 om_35 (fun j hj => absurd hj (Nat.not_lt_zero j)) (om_10 b0) (Nat.lt_succ_self _) ls (lv_sub hl [0, 1, 2] rfl)

set_option maxHeartbeats 4000000 in
set_option maxRecDepth 100000 in
theorem c_X1_learn_x (l : Launch) (dC : Nat → ClassId) (dI : Nat → Nat → Nat) (t_ : Nat) (t_k : Nat) (t_o : Nat) (cyI : ClassId) (tk : Int32) (mo : Int32) (fk : Nat → Int32) (q_row : Nat) (q_cell : Nat) (len : Int32) (f : Nat → Int32) (sz : Nat) (a0 : 0 ≤ len.toInt) (a1 : len.toInt ≤ 160) : kx_MQ l (dC, dI) yX1_learn wsX1_learn ({ frames := 1, cells := 0, slots := 0, locals := 45 }) [.ref t_, .ref q_row] [kx_1 t_ t_k t_o tk mo, kx_a t_k cyI 160 fk, kx_0 q_row q_cell len, kx_a q_cell cyI 160 f] [(cyI, .int)] sz (fun A => va_Qv (fun u : (Nat → Int32) => kindOk u len.toInt ∧ mj_kd f u len.toNatClampNeg) (fun (u : (Nat → Int32)) (t : State) => va_P (dC, dI) vwCl [kx_1 t_ t_k t_o tk mo, kx_a t_k cyI 160 u, kx_0 q_row q_cell len, kx_a q_cell cyI 160 f] t.heap ∧ va_K (dC, dI) vwCl [(cyI, .int)] t ∧ va_D A [kx_1 t_ t_k t_o tk mo, kx_a t_k cyI 160 u, kx_0 q_row q_cell len, kx_a q_cell cyI 160 f]) A) := by
  refine kx_stQ (ws := wsX1_learn) (cc := cX1_learn) (maxL := 3) (ret := none) (by decide) rfl (Nat.le_of_ble_eq_true rfl) ?_
  intro p e s m below meth c A ls hx hb hr hlocks hts hown hml hA hS hP hK hD hl
  have hown : s.vm.findClass RX1 = some m.cls := hown
  have hl : lv_has ls 3 [(0, .ref t_), (1, .ref q_row)] := hl
  have hf_18 := hts (.fieldLink RX1 18 "MajorityIndex$Row" "length" "I") (List.mem_of_getElem? (i := 1) rfl)
  have hi_0 : ∀ w ∈ u_ws RX0 TX0 2, w ∈ wsX1_learn := fun w h => List.mem_cons_of_mem _ (List.mem_append_left _ (List.mem_append_right _ h))
  have hf_9 := hts (.fieldLink RX1 9 "MajorityIndex$Tally" "kind" "[I") (List.mem_of_getElem? (i := 2) rfl)
  have hi_1 : ∀ w ∈ u_ws RX1 TX1 4, w ∈ wsX1_learn := fun w h => List.mem_cons_of_mem _ (List.mem_append_right _ h)
  have n_l := ki_nat len rfl (om_10 a0)
  refine lv_iconst (v := 0) hx hb dX1_learn_0 (by decide) ?_
  refine lv_istore_n (lv' := [(2, .int 0), (0, .ref t_), (1, .ref q_row)]) hx hb dX1_learn_1 rfl hl (by decide) rfl (fun ls hl => ?_)
  have LP1 : ∀ (n : Nat) (i : Int32) (gk : Nat → Int32), (0 ≤ i.toInt) → (mj_kd f gk i.toNatClampNeg) → (i.toInt ≤ len.toInt) → (len.toInt - i.toInt).toNat < n → ∀ (H : Heap) (locs : List Loc), va_P (dC, dI) vwCl [kx_1 t_ t_k t_o tk mo, kx_a t_k cyI 160 gk, kx_0 q_row q_cell len, kx_a q_cell cyI 160 f] H → va_D A [kx_1 t_ t_k t_o tk mo, kx_a t_k cyI 160 gk, kx_0 q_row q_cell len, kx_a q_cell cyI 160 f] → va_S A s.heap H locs → ∀ (ls : Array Slot), lv_has ls 3 [(2, .int i), (0, .ref t_), (1, .ref q_row)] → W p l e (headSpec wsX1_learn ({ frames := 1, cells := 0, slots := 0, locals := 45 })).room s m ([.ref t_, .ref q_row] : List Value).toArray below meth c H locs 0 0 (MQ below (va_Qv (fun u : (Nat → Int32) => kindOk u len.toInt ∧ mj_kd f u len.toNatClampNeg) (fun (u : (Nat → Int32)) (t : State) => va_P (dC, dI) vwCl [kx_1 t_ t_k t_o tk mo, kx_a t_k cyI 160 u, kx_0 q_row q_cell len, kx_a q_cell cyI 160 f] t.heap ∧ va_K (dC, dI) vwCl [(cyI, .int)] t ∧ va_D A [kx_1 t_ t_k t_o tk mo, kx_a t_k cyI 160 u, kx_0 q_row q_cell len, kx_a q_cell cyI 160 f]) A) ([.ref t_, .ref q_row] : List Value).toArray s 0 0 A) (F0 m 2 ls []) := by
    intro n
    induction n with
    | zero => intro i gk LP1_h0 LP1_h1 LP1_h2 hn; exact absurd hn (Nat.not_lt_zero _)
    | succ n ih1 =>
      intro i gk LP1_h0 LP1_h1 LP1_h2 hn1 H locs hP hD hS ls hl
      have n_i := ki_nat i rfl (om_10 LP1_h0)
      refine lv_iload_n hx hb dX1_learn_2 rfl (lv_at hl 0 rfl) ?_
      refine lv_aload_n hx hb dX1_learn_3 rfl (lv_at hl 2 rfl) ?_
      refine va_get (D := (dC, dI)) (ci := 0) (v := .int len) (C := RX0) (T := TX0) (N := 2) hx hb hts hi_0 hown hK hP 2 rfl rfl 1 (by decide) hf_18 (fun _ h9 => h9) rfl dX1_learn_4 ?_
      refine lv_icmp_ge (tgt := 27) hx hb dX1_learn_7 (by decide) (fun c_1 => ?_) (fun c_1 => ?_)
      · have i_1 : len.toInt ≤ i.toInt := kc_le c_1
        have hP9 := hP
        have hD9 := hD
        have hK9 := hK
        exact W.vret hx hb hr (hlocks := hlocks) (fun t ht hW => ⟨⟨(gk), rfl, ⟨mj_kd_ok LP1_h1 (by omega), (by (try dsimp only); rw [show len.toNatClampNeg = i.toNatClampNeg by omega]; exact LP1_h1)⟩, by rw [ht]; exact hP9, va_K.moved hW.alike hK9, hD9⟩, hS.F ht⟩) hS.2.2 dX1_learn_27
      · have i_1 : i.toInt < len.toInt := kc_nle c_1
        refine lv_aload_n hx hb dX1_learn_10 rfl (lv_at hl 1 rfl) ?_
        refine va_get (D := (dC, dI)) (ci := 1) (v := .ref t_k) (C := RX1) (T := TX1) (N := 4) hx hb hts hi_1 hown hK hP 0 rfl rfl 0 (by decide) hf_9 (fun _ h9 => h9) rfl dX1_learn_11 ?_
        refine lv_iload_n hx hb dX1_learn_14 rfl (lv_at hl 0 rfl) ?_
        refine lv_aload_n hx hb dX1_learn_15 rfl (lv_at hl 2 rfl) ?_
        refine lv_iload_n hx hb dX1_learn_16 rfl (lv_at hl 0 rfl) ?_
        have hPc := hP.sub (ws' := [kx_0 q_row q_cell len, kx_a q_cell cyI 160 f]) [2, 3] rfl
        have hKc := hK
        refine vp_callSi (W.runV (As := [.int i]) (rest := [.int i, .ref t_k]) ⟨hx, hb, hml, hown, hts⟩ (c_X0_firstLike_x l dC dI q_row q_cell cyI len f i LP1_h0 (om_143 a1 i_1)) (cwV 1 hts gX1_learn_X0_firstLike rfl rfl rfl (by decide +kernel) ⟨Nat.le_of_ble_eq_true rfl, Nat.le_of_ble_eq_true rfl⟩) ⟨fun a U g mk q => by obtain ⟨q0, qP, qK⟩ := q; exact ⟨q0, qP, va_K.moved (u := U) (U := U.calling g mk a) (Vm.Alike.refl U.vm) qK⟩, kx_rc0 hKc hPc (q0 := 0) rfl, fun U hU hW => ⟨rfl, by rw [hU]; exact hPc, va_K.moved hW.alike hKc⟩⟩ rfl rfl hl.1 rfl (lv_room (Nat.le_of_ble_eq_true rfl)) dX1_learn_17 ⟨Nat.le_of_ble_eq_true rfl, Nat.le_of_ble_eq_true rfl⟩) (fun r_2 w_2 => ?_)
        have w_2 : 0 ≤ r_2.toInt ∧ r_2.toInt ≤ i.toInt ∧ f r_2.toNatClampNeg = f i.toNatClampNeg ∧ ∀ j : Nat, j < r_2.toNatClampNeg → ¬ f j = f i.toNatClampNeg := w_2
        refine va_iast hx hb hK hP hD hS 1 0 rfl rfl (ki_in (om_10 LP1_h0) (om_1 a1 i_1)) dX1_learn_20 (fun H locs hP hD hS => ?_)
        obtain ⟨hP, hD⟩ := kx_re (w2 := [kx_1 t_ t_k t_o tk mo, kx_a t_k cyI 160 (upd gk i.toNatClampNeg r_2), kx_0 q_row q_cell len, kx_a q_cell cyI 160 f]) hP hD rfl
        obtain ⟨x_3, ex_3⟩ : ∃ y : Int32, y = i + 1 := ⟨_, rfl⟩
        have i_3 : x_3.toInt = i.toInt + 1 := ki_add ex_3 rfl rfl (om_13 LP1_h0) (om_238 a1 LP1_h2)
        refine lv_iinc (v := x_3) (lv' := [(2, .int x_3), (0, .ref t_), (1, .ref q_row)]) hx hb dX1_learn_21 hl (k := 0) rfl (by rw [ex_3]; rfl) (by decide) rfl (fun ls hl => ?_)
        refine lv_goto (tgt := 2) hx hb dX1_learn_24 (by decide) ?_
        have n_4 := ki_nat x_3 rfl (om_34 LP1_h0 i_3)
        exact ih1 x_3 (upd gk i.toNatClampNeg r_2) (om_34 LP1_h0 i_3) (mj_kd_put LP1_h1 (by omega) (by omega) (by omega) w_2.2.2.1 w_2.2.2.2) (om_54 i_1 i_3) (om_mu hn1 (om_5 i_3) (om_6 i_1)) _ _ hP hD hS ls (lv_sub hl [0, 1, 2] rfl)
  have k_5 : (0 : Int32).toInt = 0 := rfl
  exact LP1 ((len.toInt - 0 : Int).toNat + 1) 0 fk om_35 (mj_kd_0 _ _ rfl) (om_10 a0) (Nat.lt_succ_self _) _ _ hP hD hS ls (lv_sub hl [0, 1, 2] rfl)



/-- one of two that belong together -/
def mj_ex2 (P : Int → Int → Prop) (a i j x : Int) : Prop := ∃ u v : Int, P u v ∧ ((a = i ∧ x = u) ∨ (a = j ∧ x = v))
/-! how often each value is among the places taken -/
def mj_ka (f : Nat → Int32) (κ : Nat → Nat) (n : Nat) : Prop := ∀ i j : Nat, i < n → j < n → (κ i = κ j ↔ f i = f j)
theorem mj_ka_kd {f fk : Nat → Int32} {n : Nat} (h : mj_kd f fk n) : mj_ka f (fun k => (fk k).toNatClampNeg) n := by
  intro i j hi hj
  obtain ⟨a0, a1, a2, a3⟩ := h i hi
  obtain ⟨b0, b1, b2, b3⟩ := h j hj
  dsimp only
  constructor
  · intro e
    rw [← a2, ← b2, e]
  · intro e
    rcases Nat.lt_trichotomy (fk i).toNatClampNeg (fk j).toNatClampNeg with h9 | h9 | h9
    · exact absurd (a2.trans e) (b3 _ h9)
    · exact h9
    · exact absurd (b2.trans e.symm) (a3 _ h9)


/-! windows -/
theorem mj_cnt_one (f : Nat → Int32) (v : Int32) (l : Nat) : ∀ m : Nat, cnt f v l (m + 1) = (if f l = v then 1 else 0) + cnt f v (l + 1) m
  | 0 => by
    simp only [cnt]
    rw [Nat.add_zero, Nat.zero_add, Nat.add_zero]
  | m + 1 => by
    have ih := mj_cnt_one f v l m
    have e : cnt f v l (m + 1 + 1) = cnt f v l (m + 1) + (if f (l + (m + 1)) = v then 1 else 0) := rfl
    have e2 : cnt f v (l + 1) (m + 1) = cnt f v (l + 1) m + (if f (l + 1 + m) = v then 1 else 0) := rfl
    rw [e, e2, ih, show l + (m + 1) = l + 1 + m by omega, Nat.add_assoc]
noncomputable def mj_cN (P : Nat → Prop) (k : Nat) : Nat := @ite Nat (P k) (Classical.propDecidable _) 1 0
theorem mj_cN_yes {P : Nat → Prop} {k : Nat} (h : P k) : mj_cN P k = 1 := by unfold mj_cN; exact if_pos h
theorem mj_cN_no {P : Nat → Prop} {k : Nat} (h : ¬ P k) : mj_cN P k = 0 := by unfold mj_cN; exact if_neg h
noncomputable def mj_ct (P : Nat → Prop) : Nat → Nat
  | 0 => 0
  | n + 1 => mj_ct P n + mj_cN P n
theorem mj_ct_yes {P : Nat → Prop} {k k2 : Nat} (e : k2 = k + 1) (h : P k) : mj_ct P k2 = mj_ct P k + 1 := by
  subst e
  simp only [mj_ct]
  rw [mj_cN_yes h]
theorem mj_ct_no {P : Nat → Prop} {k k2 : Nat} (e : k2 = k + 1) (h : ¬ P k) : mj_ct P k2 = mj_ct P k := by
  subst e
  simp only [mj_ct]
  rw [mj_cN_no h, Nat.add_zero]
theorem mj_ct_le (P : Nat → Prop) : ∀ n : Nat, mj_ct P n ≤ n
  | 0 => Nat.le_refl 0
  | n + 1 => by
    have ih := mj_ct_le P n
    by_cases h : P n
    · rw [mj_ct_yes rfl h]; omega
    · rw [mj_ct_no rfl h]; omega
def mj_wv (f : Nat → Int32) (w : Nat) (p q : Int) (v : Int32) (l : Nat) : Prop := p * (w : Int) < (cnt f v l w : Int) * q
def mj_ay (f : Nat → Int32) (w : Nat) (p q : Int) (l : Nat) : Prop := ∃ k : Nat, l ≤ k ∧ k < l + w ∧ mj_wv f w p q (f k) l
def mj_to (f : Nat → Int32) (κ : Nat → Nat) (fq : Nat → Int32) (n l m : Nat) : Prop := (∀ k : Nat, k < n → (fq (κ k)).toInt = (cnt f (f k) l m : Int)) ∧ ∀ k : Nat, k < n → ¬ κ k = k → (fq k).toInt = 0
theorem mj_kd_id {f fk : Nat → Int32} {n : Nat} (h : mj_kd f fk n) (p : Nat) (hp : p < n) : (fk p).toNatClampNeg < n ∧ f (fk p).toNatClampNeg = f p ∧ (fk (fk p).toNatClampNeg).toNatClampNeg = (fk p).toNatClampNeg := by
  have o := h p hp
  have n1 := ki_nat (fk p) rfl o.1
  have lt : (fk p).toNatClampNeg < n := by omega
  have e : f (fk p).toNatClampNeg = f p := o.2.2.1
  exact ⟨lt, e, (mj_ka_kd h _ _ lt hp).mpr e⟩
theorem mj_to_0 (f : Nat → Int32) {fk fq : Nat → Int32} {n : Nat} (hk : mj_kd f fk n) (hn : n ≤ 160) {l m : Nat} (hm : m = 0) (hz : ∀ k : Nat, k < 160 → fq k = 0) : mj_to f (fun k => (fk k).toNatClampNeg) fq n l m := by
  subst hm
  refine ⟨fun k h => ?_, fun k h _ => ?_⟩
  · have o := mj_kd_id hk k h
    show (fq (fk k).toNatClampNeg).toInt = ((0 : Nat) : Int)
    rw [hz _ (by omega)]
    rfl
  · rw [hz k (by omega)]
    rfl
theorem mj_to_take {f fk fq : Nat → Int32} {n l m m2 p : Nat} {x : Int32} (hk : mj_kd f fk n) (h : mj_to f (fun k => (fk k).toNatClampNeg) fq n l m) (hp : p = l + m) (hpn : p < n) (hm : m2 = m + 1) (ex : x.toInt = (fq (fk p).toNatClampNeg).toInt + 1) : mj_to f (fun k => (fk k).toNatClampNeg) (upd fq (fk p).toNatClampNeg x) n l m2 := by
  subst hm; subst hp
  have ka := mj_ka_kd hk
  have own := h.1 (l + m) hpn
  refine ⟨fun k hkn => ?_, fun k hkn hne => ?_⟩
  · have old := h.1 k hkn
    dsimp only at old ⊢
    by_cases e : (fk k).toNatClampNeg = (fk (l + m)).toNatClampNeg
    · have ef : f k = f (l + m) := (ka k (l + m) hkn hpn).mp e
      rw [e, upd_at, ef, cnt_hit1 rfl rfl]
      dsimp only at own
      omega
    · have ef : ¬ f (l + m) = f k := fun z => e ((ka k (l + m) hkn hpn).mpr z.symm)
      rw [upd_ne e, cnt_miss1 ef rfl]
      exact old
  · have o := mj_kd_id hk (l + m) hpn
    rw [upd_ne (fun z => hne (by rw [z]; exact o.2.2))]
    exact h.2 k hkn hne
theorem mj_to_drop {f fk fq : Nat → Int32} {n l l2 m m2 : Nat} {x : Int32} (hk : mj_kd f fk n) (h : mj_to f (fun k => (fk k).toNatClampNeg) fq n l m) (hln : l < n) (hl : l2 = l + 1) (hm : m = m2 + 1) (ex : x.toInt = (fq (fk l).toNatClampNeg).toInt - 1) : mj_to f (fun k => (fk k).toNatClampNeg) (upd fq (fk l).toNatClampNeg x) n l2 m2 := by
  subst hl; subst hm
  have ka := mj_ka_kd hk
  have own := h.1 l hln
  refine ⟨fun k hkn => ?_, fun k hkn hne => ?_⟩
  · have old := h.1 k hkn
    have c1 := mj_cnt_one f (f k) l m2
    have c2 := mj_cnt_one f (f l) l m2
    rw [if_pos rfl] at c2
    dsimp only at old own ⊢
    by_cases e : (fk k).toNatClampNeg = (fk l).toNatClampNeg
    · have ef : f k = f l := (ka k l hkn hln).mp e
      rw [e, upd_at, ef]
      omega
    · have ef : ¬ f l = f k := fun z => e ((ka k l hkn hln).mpr z.symm)
      rw [if_neg ef] at c1
      rw [upd_ne e]
      omega
  · have o := mj_kd_id hk l hln
    rw [upd_ne (fun z => hne (by rw [z]; exact o.2.2))]
    exact h.2 k hkn hne
/-- how often each value has won, by its first place -/
def mj_wn (f fk fw : Nat → Int32) (w : Nat) (p q : Int) (n m : Nat) : Prop := ∀ k : Nat, k < n → ((fk k).toNatClampNeg = k → (fw k).toInt = (mj_ct (mj_wv f w p q (f k)) m : Int)) ∧ (¬ (fk k).toNatClampNeg = k → (fw k).toInt = 0)
/-- the first j have got what is due to them in a window -/
def mj_cr2 (fq gw fw : Nat → Int32) (w : Nat) (p q : Int) (j : Nat) : Prop := (∀ k : Nat, k < j → (p * (w : Int) < (fq k).toInt * q ∧ (gw k).toInt = (fw k).toInt + 1) ∨ ((fq k).toInt * q ≤ p * (w : Int) ∧ gw k = fw k)) ∧ ∀ k : Nat, j ≤ k → gw k = fw k
theorem mj_cr2_yes {fq gw fw : Nat → Int32} {w : Nat} {p q : Int} {j j2 : Nat} {x : Int32} (h : mj_cr2 fq gw fw w p q j) (e : j2 = j + 1) (hv : p * (w : Int) < (fq j).toInt * q) (ex : x.toInt = (gw j).toInt + 1) : mj_cr2 fq (upd gw j x) fw w p q j2 := by
  subst e
  refine ⟨fun k hk => ?_, fun k hk => ?_⟩
  · by_cases c : k = j
    · rw [c, upd_at]
      exact Or.inl ⟨hv, by rw [ex, h.2 j (Nat.le_refl j)]⟩
    · rw [upd_ne c]
      exact h.1 k (by omega)
  · rw [upd_ne (by omega)]
    exact h.2 k (by omega)
theorem mj_cr2_no {fq gw fw : Nat → Int32} {w : Nat} {p q : Int} {j j2 : Nat} (h : mj_cr2 fq gw fw w p q j) (e : j2 = j + 1) (hv : (fq j).toInt * q ≤ p * (w : Int)) : mj_cr2 fq gw fw w p q j2 := by
  subst e
  refine ⟨fun k hk => ?_, fun k hk => h.2 k (by omega)⟩
  by_cases c : k = j
  · rw [c]
    exact Or.inr ⟨hv, h.2 j (Nat.le_refl j)⟩
  · exact h.1 k (by omega)
theorem mj_wn_next {f fk fq gw fw : Nat → Int32} {w n m m2 l : Nat} {p q : Int} (h : mj_wn f fk fw w p q n m) (t : mj_to f (fun k => (fk k).toNatClampNeg) fq n l w) (c : mj_cr2 fq gw fw w p q n) (e : m2 = m + 1) (el : l = m) (hpw : 0 ≤ p * (w : Int)) : mj_wn f fk gw w p q n m2 := by
  subst el
  intro k hk
  obtain ⟨h1, h2⟩ := h k hk
  have ck := c.1 k hk
  refine ⟨fun z => ?_, fun z => ?_⟩
  · have tk := t.1 k hk
    dsimp only at tk
    rw [z] at tk
    have o := h1 z
    rcases ck with ⟨a, b⟩ | ⟨a, b⟩
    · have y : mj_wv f w p q (f k) l := by
        unfold mj_wv
        rw [← tk]
        exact a
      rw [mj_ct_yes e y]
      omega
    · have y : ¬ mj_wv f w p q (f k) l := fun q9 => by
        unfold mj_wv at q9
        rw [← tk] at q9
        omega
      rw [mj_ct_no e y, b]
      exact o
  · have tz := t.2 k hk z
    rcases ck with ⟨a, b⟩ | ⟨a, b⟩
    · rw [tz, Int.zero_mul] at a
      omega
    · rw [b]
      exact h2 z
def mj_sx (fq : Nat → Int32) (a q : Int) (n : Nat) : Prop := ∃ k : Nat, k < n ∧ a < (fq k).toInt * q
theorem mj_sx_up {fq : Nat → Int32} {a q : Int} {n m : Nat} (h : mj_sx fq a q n) (hn : n ≤ m) : mj_sx fq a q m := by
  obtain ⟨k, k1, k2⟩ := h
  exact ⟨k, by omega, k2⟩
/-- a window has a heavy value just if one of the kinds is heavy in it -/
theorem mj_ay_iff {f fk fq : Nat → Int32} {w n l : Nat} {p q : Int} (hk : mj_kd f fk n) (t : mj_to f (fun k => (fk k).toNatClampNeg) fq n l w) (hl : l + w ≤ n) (hpw : 0 ≤ p * (w : Int)) : mj_ay f w p q l ↔ mj_sx fq (p * (w : Int)) q n := by
  constructor
  · rintro ⟨k, k1, k2, k3⟩
    have o := mj_kd_id hk k (by omega)
    have tk := t.1 k (by omega)
    dsimp only at tk
    refine ⟨(fk k).toNatClampNeg, o.1, ?_⟩
    rw [tk]
    exact k3
  · rintro ⟨k, k1, k2⟩
    by_cases z : (fk k).toNatClampNeg = k
    · have tk := t.1 k k1
      dsimp only at tk
      rw [z] at tk
      rw [tk] at k2
      have pos := ki_mulpos k2 hpw (by omega)
      obtain ⟨j, j1, j2⟩ := cnt_pos (f := f) (v := f k) (l := l) (k := w) (by omega)
      refine ⟨l + j, by omega, by omega, ?_⟩
      unfold mj_wv
      rw [j2]
      exact k2
    · rw [t.2 k k1 z, Int.zero_mul] at k2
      omega
/-- the kind of most wins -/
def mj_km (f fw : Nat → Int32) (n : Nat) (best most : Int) : Prop := (best = -1 ∧ most = 0 ∧ ∀ k : Nat, k < n → (fw k).toInt ≤ 0) ∨ ∃ b : Nat, b < n ∧ best = (b : Int) ∧ most = (fw b).toInt ∧ 0 < most ∧ ∀ k : Nat, k < n → (fw k).toInt < most ∨ ((fw k).toInt = most ∧ (f b).toInt ≤ (f k).toInt)
def mj_kx (f fw : Nat → Int32) (n : Nat) (best : Int) : Prop := ∃ most : Int, mj_km f fw n best most
theorem mj_km_new {f fw : Nat → Int32} {n n2 : Nat} {best most best2 most2 : Int} (h : mj_km f fw n best most) (e : n2 = n + 1) (eb : best2 = (n : Int)) (em : most2 = (fw n).toInt) (hw : most < (fw n).toInt ∨ (0 ≤ best ∧ (fw n).toInt = most ∧ (f n).toInt < (f best.toNat).toInt)) : mj_km f fw n2 best2 most2 := by
  subst e
  refine Or.inr ⟨n, by omega, eb, em, ?_, fun k hk => ?_⟩
  · rcases h with ⟨h1, h2, h3⟩ | ⟨b, b1, b2, b3, b4, b5⟩ <;> omega
  · rcases Nat.lt_or_eq_of_le (Nat.le_of_lt_succ hk) with q | q
    · rcases h with ⟨h1, h2, h3⟩ | ⟨b, b1, b2, b3, b4, b5⟩
      · have := h3 k q
        omega
      · have x := b5 k q
        rcases hw with hw | ⟨w1, w2, w3⟩
        · omega
        · rw [b2] at w3
          rw [show ((b : Int)).toNat = b by omega] at w3
          omega
    · rw [q]
      exact Or.inr ⟨em.symm, Int.le_refl _⟩
theorem mj_km_old {f fw : Nat → Int32} {n n2 : Nat} {best most : Int} (h : mj_km f fw n best most) (e : n2 = n + 1) (hw : (fw n).toInt < most ∨ ((fw n).toInt = most ∧ (best = -1 ∨ (f best.toNat).toInt ≤ (f n).toInt))) : mj_km f fw n2 best most := by
  subst e
  rcases h with ⟨h1, h2, h3⟩ | ⟨b, b1, b2, b3, b4, b5⟩
  · refine Or.inl ⟨h1, h2, fun k hk => ?_⟩
    rcases Nat.lt_or_eq_of_le (Nat.le_of_lt_succ hk) with q | q
    · exact h3 k q
    · rw [q]
      omega
  · refine Or.inr ⟨b, by omega, b2, b3, b4, fun k hk => ?_⟩
    rcases Nat.lt_or_eq_of_le (Nat.le_of_lt_succ hk) with q | q
    · exact b5 k q
    · rw [q]
      rw [b2, show ((b : Int)).toNat = b by omega] at hw
      omega
/-- the best value and how many windows it wins -/
def mj_bw (f : Nat → Int32) (C : Int32 → Nat) (n : Nat) (bv bt : Int) : Prop := (bv = -40000 ∧ bt = 0 ∧ ∀ k : Nat, k < n → C (f k) = 0) ∨ ∃ k : Nat, k < n ∧ bv = (f k).toInt ∧ bt = (C (f k) : Int) ∧ 0 < bt ∧ ∀ j : Nat, j < n → (C (f j) : Int) < bt ∨ ((C (f j) : Int) = bt ∧ bv ≤ (f j).toInt)
theorem mj_bw_uni {f : Nat → Int32} {C : Int32 → Nat} {n : Nat} {bv bt cv ct : Int} (h : mj_bw f C n bv bt) (h2 : mj_bw f C n cv ct) : bv = cv ∧ bt = ct := by
  rcases h with ⟨a1, a2, a3⟩ | ⟨k, k1, k2, k3, k4, k5⟩ <;> rcases h2 with ⟨b1, b2, b3⟩ | ⟨j, j1, j2, j3, j4, j5⟩
  · omega
  · have := a3 j j1
    omega
  · have := b3 k k1
    omega
  · have x := k5 j j1
    have y := j5 k k1
    omega
theorem mj_bw_of {f fk fw : Nat → Int32} {w n m : Nat} {p q : Int} {best most : Int} (hk : mj_kd f fk n) (h : mj_wn f fk fw w p q n m) (km : mj_km f fw n best most) : (best = -1 ∧ mj_bw f (fun v => mj_ct (mj_wv f w p q v) m) n (-40000) 0) ∨ ∃ b : Nat, b < n ∧ best = (b : Int) ∧ mj_bw f (fun v => mj_ct (mj_wv f w p q v) m) n (f b).toInt (fw b).toInt := by
  have all : ∀ k : Nat, k < n → (fw (fk k).toNatClampNeg).toInt = (mj_ct (mj_wv f w p q (f k)) m : Int) ∧ f (fk k).toNatClampNeg = f k ∧ (fk k).toNatClampNeg < n := fun k hkn => by
    have o := mj_kd_id hk k hkn
    have z := (h _ o.1).1 o.2.2
    rw [o.2.1] at z
    exact ⟨z, o.2.1, o.1⟩
  rcases km with ⟨h1, h2, h3⟩ | ⟨b, b1, b2, b3, b4, b5⟩
  · refine Or.inl ⟨h1, Or.inl ⟨rfl, rfl, fun k hkn => ?_⟩⟩
    obtain ⟨x, -, x3⟩ := all k hkn
    have := h3 _ x3
    show mj_ct (mj_wv f w p q (f k)) m = 0
    omega
  · refine Or.inr ⟨b, b1, b2, Or.inr ⟨b, b1, rfl, ?_, by omega, fun j hj => ?_⟩⟩
    · by_cases z : (fk b).toNatClampNeg = b
      · exact (h b b1).1 z
      · have := (h b b1).2 z
        omega
    · obtain ⟨x, x2, x3⟩ := all j hj
      have y := b5 _ x3
      rw [x2] at y
      show (mj_ct (mj_wv f w p q (f j)) m : Int) < _ ∨ ((mj_ct (mj_wv f w p q (f j)) m : Int) = _ ∧ _)
      omega
/-- the reference's: the values that have been met -/
theorem mj_bw_0 (f : Nat → Int32) (C : Int32 → Nat) {n : Nat} (h : n = 0) : mj_bw f C n (-40000) 0 := Or.inl ⟨rfl, rfl, fun k hk => by omega⟩
theorem mj_bw_met {f : Nat → Int32} {C : Int32 → Nat} {n n2 j : Nat} {bv bt : Int} (h : mj_bw f C n bv bt) (e : n2 = n + 1) (hj : j < n) (ef : f j = f n) : mj_bw f C n2 bv bt := by
  subst e
  rcases h with ⟨a1, a2, a3⟩ | ⟨k, k1, k2, k3, k4, k5⟩
  · refine Or.inl ⟨a1, a2, fun k hk => ?_⟩
    rcases Nat.lt_or_eq_of_le (Nat.le_of_lt_succ hk) with q | q
    · exact a3 k q
    · rw [q, ← ef]
      exact a3 j hj
  · refine Or.inr ⟨k, by omega, k2, k3, k4, fun i hi => ?_⟩
    rcases Nat.lt_or_eq_of_le (Nat.le_of_lt_succ hi) with q | q
    · exact k5 i q
    · rw [q, ← ef]
      exact k5 j hj
theorem mj_bw_put {f : Nat → Int32} {C : Int32 → Nat} {n n2 : Nat} {bv bt bv2 bt2 : Int} (h : mj_bw f C n bv bt) (e : n2 = n + 1) (hb : bv2 = (f n).toInt) (ht : bt2 = (C (f n) : Int)) (h0 : 0 < bt2) (hw : bt < bt2 ∨ (bt = bt2 ∧ bv2 ≤ bv)) : mj_bw f C n2 bv2 bt2 := by
  subst e
  refine Or.inr ⟨n, by omega, hb, ht, h0, fun j hj => ?_⟩
  rcases Nat.lt_or_eq_of_le (Nat.le_of_lt_succ hj) with q | q
  · rcases h with ⟨a1, a2, a3⟩ | ⟨k, k1, k2, k3, k4, k5⟩
    · have := a3 j q
      omega
    · have := k5 j q
      omega
  · rw [q]
    omega
theorem mj_bw_skip {f : Nat → Int32} {C : Int32 → Nat} {n n2 : Nat} {bv bt : Int} (h : mj_bw f C n bv bt) (e : n2 = n + 1) (hw : (C (f n) : Int) < bt ∨ C (f n) = 0 ∨ ((C (f n) : Int) = bt ∧ bv < (f n).toInt)) : mj_bw f C n2 bv bt := by
  subst e
  rcases h with ⟨a1, a2, a3⟩ | ⟨k, k1, k2, k3, k4, k5⟩
  · by_cases z : C (f n) = 0
    · refine Or.inl ⟨a1, a2, fun k hk => ?_⟩
      rcases Nat.lt_or_eq_of_le (Nat.le_of_lt_succ hk) with q | q
      · exact a3 k q
      · rw [q]
        exact z
    · omega
  · refine Or.inr ⟨k, by omega, k2, k3, k4, fun i hi => ?_⟩
    rcases Nat.lt_or_eq_of_le (Nat.le_of_lt_succ hi) with q | q
    · exact k5 i q
    · rw [q]
      omega


