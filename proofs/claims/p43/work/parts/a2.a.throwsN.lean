abbrev cX4_at : ByteArray := prog_1_method_11_code
def yX4_at : MethodName := ⟨RX4, "at", "(I)I"⟩
abbrev cX4_vote : ByteArray := prog_1_method_16_code
def yX4_vote : MethodName := ⟨RX4, "vote", "(IIII)I"⟩
abbrev cX4_candidate : ByteArray := prog_1_method_24_code
def yX4_candidate : MethodName := ⟨RX4, "candidate", "(IIII)I"⟩
abbrev cX4_heavyAt : ByteArray := prog_1_method_28_code
def yX4_heavyAt : MethodName := ⟨RX4, "heavyAt", "(IIIIII)I"⟩
def wsX4_at : List Cond := .code yX4_at cX4_at 2 (some .int) :: ([.classLink RX4 107 "java/util/NoSuchElementException", .initialized "java/util/NoSuchElementException", .fieldLink RX4 12 "MajorityIndex" "row" "LMajorityIndex$Row;", .fieldLink RX4 110 "MajorityIndex$Row" "cell" "[I", .methodLink RX4 64 yX0_hasPlace, .instanceMethod yX0_hasPlace, .selects RX0 yX0_hasPlace yX0_hasPlace, .initialized RX0, .code yX0_hasPlace cX0_hasPlace 2 (some .boolean), .fieldLink RX0 15 "MajorityIndex$Row" "length" "I"] ++ wsX40 ++ wsX00 ++ (vx_at0 RX4 109 "java/util/NoSuchElementException" ["java/lang/RuntimeException", "java/lang/Exception"]).filter goodWord)
def wsX4_vote_r1 : List Cond := [Cond.classLink RX4 107 "java/util/NoSuchElementException", Cond.initialized "java/util/NoSuchElementException", Cond.fieldLink RX4 12 "MajorityIndex" "row" "LMajorityIndex$Row;", Cond.fieldLink RX4 126 "MajorityIndex$Tree" "size" "[I", Cond.fieldLink RX4 35 "MajorityIndex" "votes" "LMajorityIndex$Votes;", Cond.fieldLink RX4 133 "MajorityIndex$Votes" "value" "[I", Cond.fieldLink RX4 136 "MajorityIndex$Votes" "number" "[I", Cond.methodLink RX4 79 yX0_hasRange, Cond.instanceMethod yX0_hasRange, Cond.selects RX0 yX0_hasRange yX0_hasRange, Cond.initialized RX0, Cond.code yX0_hasRange cX0_hasRange 3 (some .boolean), Cond.fieldLink RX0 15 "MajorityIndex$Row" "length" "I", Cond.methodLink RX4 71 yX4_laidTree, Cond.instanceMethod yX4_laidTree, Cond.selects RX4 yX4_laidTree yX4_laidTree, Cond.initialized RX4, Cond.code yX4_laidTree cX4_laidTree 1 (some (.object "MajorityIndex$Tree")), Cond.fieldLink RX4 53 "MajorityIndex" "treeIsOld" "Z", Cond.fieldLink RX4 21 "MajorityIndex" "tree" "LMajorityIndex$Tree;", Cond.fieldLink RX4 49 "MajorityIndex" "slotsNow" "I", Cond.fieldLink RX4 204 "MajorityIndex$Tree" "slotsHere" "I", Cond.fieldLink RX4 57 "MajorityIndex$Row" "length" "I", Cond.methodLink RX4 259 yX2_layRanges]
def wsX4_vote_r2 : List Cond := [Cond.instanceMethod yX2_layRanges, Cond.selects RX2 yX2_layRanges yX2_layRanges, Cond.initialized RX2, Cond.code yX2_layRanges cX2_layRanges 2 none, Cond.fieldLink RX2 40 "MajorityIndex$Tree" "row" "LMajorityIndex$Row;", Cond.fieldLink RX2 44 "MajorityIndex$Row" "length" "I", Cond.fieldLink RX2 50 "MajorityIndex$Tree" "nodes" "I", Cond.fieldLink RX2 18 "MajorityIndex$Tree" "from" "[I", Cond.fieldLink RX2 22 "MajorityIndex$Tree" "to" "[I", Cond.methodLink RX2 53 yX2_layBelow, Cond.instanceMethod yX2_layBelow, Cond.selects RX2 yX2_layBelow yX2_layBelow, Cond.code yX2_layBelow cX2_layBelow 4 none, Cond.methodLink RX2 57 yX2_rightBelow, Cond.instanceMethod yX2_rightBelow, Cond.selects RX2 yX2_rightBelow yX2_rightBelow, Cond.code yX2_rightBelow cX2_rightBelow 3 (some .int), Cond.methodLink RX4 87 yX2_renew, Cond.instanceMethod yX2_renew, Cond.selects RX2 yX2_renew yX2_renew, Cond.code yX2_renew cX2_renew 5 (some .int), Cond.methodLink RX2 61 yX2_putTogether, Cond.instanceMethod yX2_putTogether, Cond.selects RX2 yX2_putTogether yX2_putTogether]
def wsX4_vote_r3 : List Cond := [Cond.code yX2_putTogether cX2_putTogether 2 none, Cond.fieldLink RX2 12 "MajorityIndex$Tree" "joined" "LMajorityIndex$Votes;", Cond.fieldLink RX2 74 "MajorityIndex$Row" "cell" "[I", Cond.fieldLink RX2 85 "MajorityIndex$Tree" "slotsHere" "I", Cond.methodLink RX2 71 yX3_clear, Cond.instanceMethod yX3_clear, Cond.selects RX3 yX3_clear yX3_clear, Cond.initialized RX3, Cond.code yX3_clear cX3_clear 1 none, Cond.fieldLink RX3 18 "MajorityIndex$Votes" "size" "I", Cond.fieldLink RX3 22 "MajorityIndex$Votes" "lost" "I", Cond.fieldLink RX3 25 "MajorityIndex$Votes" "lessBy" "I", Cond.methodLink RX2 77 yX3_add, Cond.instanceMethod yX3_add, Cond.selects RX3 yX3_add yX3_add, Cond.code yX3_add cX3_add 4 none, Cond.fieldLink RX3 9 "MajorityIndex$Votes" "value" "[I", Cond.fieldLink RX3 15 "MajorityIndex$Votes" "number" "[I", Cond.methodLink RX2 81 yX2_joinNode, Cond.instanceMethod yX2_joinNode, Cond.selects RX2 yX2_joinNode yX2_joinNode, Cond.code yX2_joinNode cX2_joinNode 5 none, Cond.fieldLink RX2 25 "MajorityIndex$Tree" "size" "[I", Cond.fieldLink RX2 34 "MajorityIndex$Tree" "value" "[I"]
def wsX4_vote_r4 : List Cond := [Cond.fieldLink RX2 37 "MajorityIndex$Tree" "number" "[I", Cond.fieldLink RX2 91 "MajorityIndex$Votes" "lost" "I", Cond.fieldLink RX2 28 "MajorityIndex$Tree" "lossOf" "[I", Cond.methodLink RX2 88 yX3_cancel, Cond.instanceMethod yX3_cancel, Cond.selects RX3 yX3_cancel yX3_cancel, Cond.code yX3_cancel cX3_cancel 4 none, Cond.methodLink RX3 32 yX3_order, Cond.instanceMethod yX3_order, Cond.selects RX3 yX3_order yX3_order, Cond.code yX3_order cX3_order 3 none, Cond.methodLink RX3 35 yX3_isAhead, Cond.instanceMethod yX3_isAhead, Cond.selects RX3 yX3_isAhead yX3_isAhead, Cond.code yX3_isAhead cX3_isAhead 3 (some .boolean), Cond.methodLink RX3 39 yX3_exchange, Cond.instanceMethod yX3_exchange, Cond.selects RX3 yX3_exchange yX3_exchange, Cond.code yX3_exchange cX3_exchange 5 none, Cond.methodLink RX2 64 yX2_isJoined, Cond.instanceMethod yX2_isJoined, Cond.selects RX2 yX2_isJoined yX2_isJoined, Cond.code yX2_isJoined cX2_isJoined 4 (some .boolean), Cond.fieldLink RX2 94 "MajorityIndex$Votes" "size" "I"]
def wsX4_vote_r5 : List Cond := [Cond.fieldLink RX2 96 "MajorityIndex$Votes" "value" "[I", Cond.fieldLink RX2 97 "MajorityIndex$Votes" "number" "[I", Cond.methodLink RX2 68 yX2_keepJoined, Cond.instanceMethod yX2_keepJoined, Cond.selects RX2 yX2_keepJoined yX2_keepJoined, Cond.code yX2_keepJoined cX2_keepJoined 4 none, Cond.methodLink RX2 98 Lib.Math.min.name, Cond.static Lib.Math.min.name, Cond.initialized "java/lang/Math", Cond.code Lib.Math.min.name Lib.Math.min.code 2 (some .int), Cond.fieldLink RX2 31 "MajorityIndex$Tree" "lessBy" "[I", Cond.fieldLink RX2 104 "MajorityIndex$Votes" "lessBy" "I", Cond.methodLink RX4 123 yX2_find, Cond.instanceMethod yX2_find, Cond.selects RX2 yX2_find yX2_find, Cond.code yX2_find cX2_find 4 (some .int), Cond.methodLink RX4 129 yX2_copyTo, Cond.instanceMethod yX2_copyTo, Cond.selects RX2 yX2_copyTo yX2_copyTo, Cond.code yX2_copyTo cX2_copyTo 3 none]
def wsX4_vote : List Cond := .code yX4_vote cX4_vote 7 (some .int) :: ((wsX4_vote_r1 ++ (wsX4_vote_r2 ++ (wsX4_vote_r3 ++ (wsX4_vote_r4 ++ wsX4_vote_r5)))) ++ wsX40 ++ wsX20 ++ wsX30 ++ wsX00 ++ (vx_at0 RX4 109 "java/util/NoSuchElementException" ["java/lang/RuntimeException", "java/lang/Exception"]).filter goodWord)
def wsX4_candidate_r1 : List Cond := [Cond.classLink RX4 107 "java/util/NoSuchElementException", Cond.initialized "java/util/NoSuchElementException", Cond.fieldLink RX4 12 "MajorityIndex" "row" "LMajorityIndex$Row;", Cond.fieldLink RX4 35 "MajorityIndex" "votes" "LMajorityIndex$Votes;", Cond.fieldLink RX4 174 "MajorityIndex$Votes" "size" "I", Cond.fieldLink RX4 133 "MajorityIndex$Votes" "value" "[I", Cond.fieldLink RX4 136 "MajorityIndex$Votes" "number" "[I", Cond.methodLink RX4 79 yX0_hasRange, Cond.instanceMethod yX0_hasRange, Cond.selects RX0 yX0_hasRange yX0_hasRange, Cond.initialized RX0, Cond.code yX0_hasRange cX0_hasRange 3 (some .boolean), Cond.fieldLink RX0 15 "MajorityIndex$Row" "length" "I", Cond.methodLink RX4 71 yX4_laidTree, Cond.instanceMethod yX4_laidTree, Cond.selects RX4 yX4_laidTree yX4_laidTree, Cond.initialized RX4, Cond.code yX4_laidTree cX4_laidTree 1 (some (.object "MajorityIndex$Tree")), Cond.fieldLink RX4 53 "MajorityIndex" "treeIsOld" "Z", Cond.fieldLink RX4 21 "MajorityIndex" "tree" "LMajorityIndex$Tree;", Cond.fieldLink RX4 49 "MajorityIndex" "slotsNow" "I", Cond.fieldLink RX4 204 "MajorityIndex$Tree" "slotsHere" "I", Cond.fieldLink RX4 57 "MajorityIndex$Row" "length" "I", Cond.methodLink RX4 259 yX2_layRanges]
def wsX4_candidate_r2 : List Cond := [Cond.instanceMethod yX2_layRanges, Cond.selects RX2 yX2_layRanges yX2_layRanges, Cond.initialized RX2, Cond.code yX2_layRanges cX2_layRanges 2 none, Cond.fieldLink RX2 40 "MajorityIndex$Tree" "row" "LMajorityIndex$Row;", Cond.fieldLink RX2 44 "MajorityIndex$Row" "length" "I", Cond.fieldLink RX2 50 "MajorityIndex$Tree" "nodes" "I", Cond.fieldLink RX2 18 "MajorityIndex$Tree" "from" "[I", Cond.fieldLink RX2 22 "MajorityIndex$Tree" "to" "[I", Cond.methodLink RX2 53 yX2_layBelow, Cond.instanceMethod yX2_layBelow, Cond.selects RX2 yX2_layBelow yX2_layBelow, Cond.code yX2_layBelow cX2_layBelow 4 none, Cond.methodLink RX2 57 yX2_rightBelow, Cond.instanceMethod yX2_rightBelow, Cond.selects RX2 yX2_rightBelow yX2_rightBelow, Cond.code yX2_rightBelow cX2_rightBelow 3 (some .int), Cond.methodLink RX4 87 yX2_renew, Cond.instanceMethod yX2_renew, Cond.selects RX2 yX2_renew yX2_renew, Cond.code yX2_renew cX2_renew 5 (some .int), Cond.methodLink RX2 61 yX2_putTogether, Cond.instanceMethod yX2_putTogether, Cond.selects RX2 yX2_putTogether yX2_putTogether]
def wsX4_candidate_r3 : List Cond := [Cond.code yX2_putTogether cX2_putTogether 2 none, Cond.fieldLink RX2 12 "MajorityIndex$Tree" "joined" "LMajorityIndex$Votes;", Cond.fieldLink RX2 74 "MajorityIndex$Row" "cell" "[I", Cond.fieldLink RX2 85 "MajorityIndex$Tree" "slotsHere" "I", Cond.methodLink RX2 71 yX3_clear, Cond.instanceMethod yX3_clear, Cond.selects RX3 yX3_clear yX3_clear, Cond.initialized RX3, Cond.code yX3_clear cX3_clear 1 none, Cond.fieldLink RX3 18 "MajorityIndex$Votes" "size" "I", Cond.fieldLink RX3 22 "MajorityIndex$Votes" "lost" "I", Cond.fieldLink RX3 25 "MajorityIndex$Votes" "lessBy" "I", Cond.methodLink RX2 77 yX3_add, Cond.instanceMethod yX3_add, Cond.selects RX3 yX3_add yX3_add, Cond.code yX3_add cX3_add 4 none, Cond.fieldLink RX3 9 "MajorityIndex$Votes" "value" "[I", Cond.fieldLink RX3 15 "MajorityIndex$Votes" "number" "[I", Cond.methodLink RX2 81 yX2_joinNode, Cond.instanceMethod yX2_joinNode, Cond.selects RX2 yX2_joinNode yX2_joinNode, Cond.code yX2_joinNode cX2_joinNode 5 none, Cond.fieldLink RX2 25 "MajorityIndex$Tree" "size" "[I", Cond.fieldLink RX2 34 "MajorityIndex$Tree" "value" "[I"]
def wsX4_candidate_r4 : List Cond := [Cond.fieldLink RX2 37 "MajorityIndex$Tree" "number" "[I", Cond.fieldLink RX2 91 "MajorityIndex$Votes" "lost" "I", Cond.fieldLink RX2 28 "MajorityIndex$Tree" "lossOf" "[I", Cond.methodLink RX2 88 yX3_cancel, Cond.instanceMethod yX3_cancel, Cond.selects RX3 yX3_cancel yX3_cancel, Cond.code yX3_cancel cX3_cancel 4 none, Cond.methodLink RX3 32 yX3_order, Cond.instanceMethod yX3_order, Cond.selects RX3 yX3_order yX3_order, Cond.code yX3_order cX3_order 3 none, Cond.methodLink RX3 35 yX3_isAhead, Cond.instanceMethod yX3_isAhead, Cond.selects RX3 yX3_isAhead yX3_isAhead, Cond.code yX3_isAhead cX3_isAhead 3 (some .boolean), Cond.methodLink RX3 39 yX3_exchange, Cond.instanceMethod yX3_exchange, Cond.selects RX3 yX3_exchange yX3_exchange, Cond.code yX3_exchange cX3_exchange 5 none, Cond.methodLink RX2 64 yX2_isJoined, Cond.instanceMethod yX2_isJoined, Cond.selects RX2 yX2_isJoined yX2_isJoined, Cond.code yX2_isJoined cX2_isJoined 4 (some .boolean), Cond.fieldLink RX2 94 "MajorityIndex$Votes" "size" "I"]
def wsX4_candidate_r5 : List Cond := [Cond.fieldLink RX2 96 "MajorityIndex$Votes" "value" "[I", Cond.fieldLink RX2 97 "MajorityIndex$Votes" "number" "[I", Cond.methodLink RX2 68 yX2_keepJoined, Cond.instanceMethod yX2_keepJoined, Cond.selects RX2 yX2_keepJoined yX2_keepJoined, Cond.code yX2_keepJoined cX2_keepJoined 4 none, Cond.methodLink RX2 98 Lib.Math.min.name, Cond.static Lib.Math.min.name, Cond.initialized "java/lang/Math", Cond.code Lib.Math.min.name Lib.Math.min.code 2 (some .int), Cond.fieldLink RX2 31 "MajorityIndex$Tree" "lessBy" "[I", Cond.fieldLink RX2 104 "MajorityIndex$Votes" "lessBy" "I", Cond.methodLink RX4 170 yX2_gather, Cond.instanceMethod yX2_gather, Cond.selects RX2 yX2_gather yX2_gather, Cond.code yX2_gather cX2_gather 6 none, Cond.methodLink RX2 106 yX2_isPart, Cond.instanceMethod yX2_isPart, Cond.selects RX2 yX2_isPart yX2_isPart, Cond.code yX2_isPart cX2_isPart 4 (some .boolean), Cond.methodLink RX4 113 yX0_oftenIn, Cond.instanceMethod yX0_oftenIn, Cond.selects RX0 yX0_oftenIn yX0_oftenIn, Cond.code yX0_oftenIn cX0_oftenIn 6 (some .int)]
def wsX4_candidate_r6 : List Cond := [Cond.fieldLink RX0 9 "MajorityIndex$Row" "cell" "[I"]
def wsX4_candidate : List Cond := .code yX4_candidate cX4_candidate 5 (some .int) :: ((wsX4_candidate_r1 ++ (wsX4_candidate_r2 ++ (wsX4_candidate_r3 ++ (wsX4_candidate_r4 ++ (wsX4_candidate_r5 ++ wsX4_candidate_r6))))) ++ wsX40 ++ wsX30 ++ wsX00 ++ wsX20 ++ (vx_at0 RX4 109 "java/util/NoSuchElementException" ["java/lang/RuntimeException", "java/lang/Exception"]).filter goodWord)
def wsX4_heavyAt_r1 : List Cond := [Cond.classLink RX4 107 "java/util/NoSuchElementException", Cond.initialized "java/util/NoSuchElementException", Cond.fieldLink RX4 12 "MajorityIndex" "row" "LMajorityIndex$Row;", Cond.fieldLink RX4 35 "MajorityIndex" "votes" "LMajorityIndex$Votes;", Cond.fieldLink RX4 174 "MajorityIndex$Votes" "size" "I", Cond.fieldLink RX4 133 "MajorityIndex$Votes" "value" "[I", Cond.fieldLink RX4 136 "MajorityIndex$Votes" "number" "[I", Cond.methodLink RX4 79 yX0_hasRange, Cond.instanceMethod yX0_hasRange, Cond.selects RX0 yX0_hasRange yX0_hasRange, Cond.initialized RX0, Cond.code yX0_hasRange cX0_hasRange 3 (some .boolean), Cond.fieldLink RX0 15 "MajorityIndex$Row" "length" "I", Cond.methodLink RX4 186 yX4_isShare, Cond.static yX4_isShare, Cond.initialized RX4, Cond.code yX4_isShare cX4_isShare 2 (some .boolean), Cond.methodLink RX4 189 yX4_isEnough, Cond.instanceMethod yX4_isEnough, Cond.selects RX4 yX4_isEnough yX4_isEnough, Cond.code yX4_isEnough cX4_isEnough 3 (some .boolean), Cond.fieldLink RX4 49 "MajorityIndex" "slotsNow" "I", Cond.methodLink RX4 71 yX4_laidTree, Cond.instanceMethod yX4_laidTree]
def wsX4_heavyAt_r2 : List Cond := [Cond.selects RX4 yX4_laidTree yX4_laidTree, Cond.code yX4_laidTree cX4_laidTree 1 (some (.object "MajorityIndex$Tree")), Cond.fieldLink RX4 53 "MajorityIndex" "treeIsOld" "Z", Cond.fieldLink RX4 21 "MajorityIndex" "tree" "LMajorityIndex$Tree;", Cond.fieldLink RX4 204 "MajorityIndex$Tree" "slotsHere" "I", Cond.fieldLink RX4 57 "MajorityIndex$Row" "length" "I", Cond.methodLink RX4 259 yX2_layRanges, Cond.instanceMethod yX2_layRanges, Cond.selects RX2 yX2_layRanges yX2_layRanges, Cond.initialized RX2, Cond.code yX2_layRanges cX2_layRanges 2 none, Cond.fieldLink RX2 40 "MajorityIndex$Tree" "row" "LMajorityIndex$Row;", Cond.fieldLink RX2 44 "MajorityIndex$Row" "length" "I", Cond.fieldLink RX2 50 "MajorityIndex$Tree" "nodes" "I", Cond.fieldLink RX2 18 "MajorityIndex$Tree" "from" "[I", Cond.fieldLink RX2 22 "MajorityIndex$Tree" "to" "[I", Cond.methodLink RX2 53 yX2_layBelow, Cond.instanceMethod yX2_layBelow, Cond.selects RX2 yX2_layBelow yX2_layBelow, Cond.code yX2_layBelow cX2_layBelow 4 none, Cond.methodLink RX2 57 yX2_rightBelow, Cond.instanceMethod yX2_rightBelow, Cond.selects RX2 yX2_rightBelow yX2_rightBelow, Cond.code yX2_rightBelow cX2_rightBelow 3 (some .int)]
def wsX4_heavyAt_r3 : List Cond := [Cond.methodLink RX4 87 yX2_renew, Cond.instanceMethod yX2_renew, Cond.selects RX2 yX2_renew yX2_renew, Cond.code yX2_renew cX2_renew 5 (some .int), Cond.methodLink RX2 61 yX2_putTogether, Cond.instanceMethod yX2_putTogether, Cond.selects RX2 yX2_putTogether yX2_putTogether, Cond.code yX2_putTogether cX2_putTogether 2 none, Cond.fieldLink RX2 12 "MajorityIndex$Tree" "joined" "LMajorityIndex$Votes;", Cond.fieldLink RX2 74 "MajorityIndex$Row" "cell" "[I", Cond.fieldLink RX2 85 "MajorityIndex$Tree" "slotsHere" "I", Cond.methodLink RX2 71 yX3_clear, Cond.instanceMethod yX3_clear, Cond.selects RX3 yX3_clear yX3_clear, Cond.initialized RX3, Cond.code yX3_clear cX3_clear 1 none, Cond.fieldLink RX3 18 "MajorityIndex$Votes" "size" "I", Cond.fieldLink RX3 22 "MajorityIndex$Votes" "lost" "I", Cond.fieldLink RX3 25 "MajorityIndex$Votes" "lessBy" "I", Cond.methodLink RX2 77 yX3_add, Cond.instanceMethod yX3_add, Cond.selects RX3 yX3_add yX3_add, Cond.code yX3_add cX3_add 4 none, Cond.fieldLink RX3 9 "MajorityIndex$Votes" "value" "[I"]
def wsX4_heavyAt_r4 : List Cond := [Cond.fieldLink RX3 15 "MajorityIndex$Votes" "number" "[I", Cond.methodLink RX2 81 yX2_joinNode, Cond.instanceMethod yX2_joinNode, Cond.selects RX2 yX2_joinNode yX2_joinNode, Cond.code yX2_joinNode cX2_joinNode 5 none, Cond.fieldLink RX2 25 "MajorityIndex$Tree" "size" "[I", Cond.fieldLink RX2 34 "MajorityIndex$Tree" "value" "[I", Cond.fieldLink RX2 37 "MajorityIndex$Tree" "number" "[I", Cond.fieldLink RX2 91 "MajorityIndex$Votes" "lost" "I", Cond.fieldLink RX2 28 "MajorityIndex$Tree" "lossOf" "[I", Cond.methodLink RX2 88 yX3_cancel, Cond.instanceMethod yX3_cancel, Cond.selects RX3 yX3_cancel yX3_cancel, Cond.code yX3_cancel cX3_cancel 4 none, Cond.methodLink RX3 32 yX3_order, Cond.instanceMethod yX3_order, Cond.selects RX3 yX3_order yX3_order, Cond.code yX3_order cX3_order 3 none, Cond.methodLink RX3 35 yX3_isAhead, Cond.instanceMethod yX3_isAhead, Cond.selects RX3 yX3_isAhead yX3_isAhead, Cond.code yX3_isAhead cX3_isAhead 3 (some .boolean), Cond.methodLink RX3 39 yX3_exchange, Cond.instanceMethod yX3_exchange]
def wsX4_heavyAt_r5 : List Cond := [Cond.selects RX3 yX3_exchange yX3_exchange, Cond.code yX3_exchange cX3_exchange 5 none, Cond.methodLink RX2 64 yX2_isJoined, Cond.instanceMethod yX2_isJoined, Cond.selects RX2 yX2_isJoined yX2_isJoined, Cond.code yX2_isJoined cX2_isJoined 4 (some .boolean), Cond.fieldLink RX2 94 "MajorityIndex$Votes" "size" "I", Cond.fieldLink RX2 96 "MajorityIndex$Votes" "value" "[I", Cond.fieldLink RX2 97 "MajorityIndex$Votes" "number" "[I", Cond.methodLink RX2 68 yX2_keepJoined, Cond.instanceMethod yX2_keepJoined, Cond.selects RX2 yX2_keepJoined yX2_keepJoined, Cond.code yX2_keepJoined cX2_keepJoined 4 none, Cond.methodLink RX2 98 Lib.Math.min.name, Cond.static Lib.Math.min.name, Cond.initialized "java/lang/Math", Cond.code Lib.Math.min.name Lib.Math.min.code 2 (some .int), Cond.fieldLink RX2 31 "MajorityIndex$Tree" "lessBy" "[I", Cond.fieldLink RX2 104 "MajorityIndex$Votes" "lessBy" "I", Cond.methodLink RX4 192 yX4_gatherHeavy, Cond.instanceMethod yX4_gatherHeavy, Cond.selects RX4 yX4_gatherHeavy yX4_gatherHeavy, Cond.code yX4_gatherHeavy cX4_gatherHeavy 7 none, Cond.methodLink RX4 170 yX2_gather]
def wsX4_heavyAt_r6 : List Cond := [Cond.instanceMethod yX2_gather, Cond.selects RX2 yX2_gather yX2_gather, Cond.code yX2_gather cX2_gather 6 none, Cond.methodLink RX2 106 yX2_isPart, Cond.instanceMethod yX2_isPart, Cond.selects RX2 yX2_isPart yX2_isPart, Cond.code yX2_isPart cX2_isPart 4 (some .boolean), Cond.methodLink RX4 113 yX0_oftenIn, Cond.instanceMethod yX0_oftenIn, Cond.selects RX0 yX0_oftenIn yX0_oftenIn, Cond.code yX0_oftenIn cX0_oftenIn 6 (some .int), Cond.fieldLink RX0 9 "MajorityIndex$Row" "cell" "[I", Cond.methodLink RX4 262 yX3_keepHeavy, Cond.instanceMethod yX3_keepHeavy, Cond.selects RX3 yX3_keepHeavy yX3_keepHeavy, Cond.code yX3_keepHeavy cX3_keepHeavy 6 none, Cond.static yX4_isHeavy, Cond.code yX4_isHeavy cX4_isHeavy 4 (some .boolean)]
def wsX4_heavyAt : List Cond := .code yX4_heavyAt cX4_heavyAt 7 (some .int) :: ((wsX4_heavyAt_r1 ++ (wsX4_heavyAt_r2 ++ (wsX4_heavyAt_r3 ++ (wsX4_heavyAt_r4 ++ (wsX4_heavyAt_r5 ++ wsX4_heavyAt_r6))))) ++ wsX40 ++ wsX30 ++ wsX00 ++ wsX20 ++ (vx_at0 RX4 109 "java/util/NoSuchElementException" ["java/lang/RuntimeException", "java/lang/Exception"]).filter goodWord)
set_option maxRecDepth 20000 in
theorem ggX4_at_X0_hasPlace : GoodIn wsX4_at wsX0_hasPlace := goodIn_r _ [9, 10, 20, 21] rfl (by decide +kernel)
set_option maxRecDepth 20000 in
theorem gX4_at_X0_hasPlace : GoodIn wsX4_at (wsV RX4 64 RX0 yX0_hasPlace wsX0_hasPlace) := goodIn_app (goodIn_r _ [5, 6, 7, 8] rfl (by decide +kernel)) ggX4_at_X0_hasPlace
def dt_cX4_at_0 : List (Nat × Nat × Nat × Nat) := [(0, 42, 0, 0), (1, 180, 2, 12), (4, 27, 0, 0), (5, 182, 2, 64), (8, 154, 2, 11), (11, 187, 2, 107), (14, 89, 0, 0), (15, 183, 2, 109), (18, 191, 0, 0), (19, 42, 0, 0), (20, 180, 2, 12), (23, 180, 2, 110), (26, 27, 0, 0), (27, 46, 0, 0), (28, 172, 0, 0)]
theorem da_cX4_at_0 : fw dt_cX4_at_0 0 cX4_at.data.toList = true := by decide +kernel
theorem dX4_at_0 : decode cX4_at 0 = .ok (.aload_n 0, 1) := fo_42 (fw_get da_cX4_at_0 0 rfl)
theorem dX4_at_1 : decode cX4_at 1 = .ok (.getfield 12, 3) := fo_180 (fw_get da_cX4_at_0 1 rfl)
theorem dX4_at_4 : decode cX4_at 4 = .ok (.iload_n 1, 1) := fo_27 (fw_get da_cX4_at_0 2 rfl)
theorem dX4_at_5 : decode cX4_at 5 = .ok (.invokevirtual 64, 3) := fo_182 (fw_get da_cX4_at_0 3 rfl)
theorem dX4_at_8 : decode cX4_at 8 = .ok (.ifCond .ne 11, 3) := fo_154 (fw_get da_cX4_at_0 4 rfl) (by decide +kernel)
theorem dX4_at_11 : decode cX4_at 11 = .ok (.new 107, 3) := fo_187 (fw_get da_cX4_at_0 5 rfl)
theorem dX4_at_14 : decode cX4_at 14 = .ok (.dup, 1) := fo_89 (fw_get da_cX4_at_0 6 rfl)
theorem dX4_at_15 : decode cX4_at 15 = .ok (.invokespecial 109, 3) := fo_183 (fw_get da_cX4_at_0 7 rfl)
theorem dX4_at_18 : decode cX4_at 18 = .ok (.athrow, 1) := fo_191 (fw_get da_cX4_at_0 8 rfl)
theorem dX4_at_19 : decode cX4_at 19 = .ok (.aload_n 0, 1) := fo_42 (fw_get da_cX4_at_0 9 rfl)
theorem dX4_at_20 : decode cX4_at 20 = .ok (.getfield 12, 3) := fo_180 (fw_get da_cX4_at_0 10 rfl)
theorem dX4_at_23 : decode cX4_at 23 = .ok (.getfield 110, 3) := fo_180 (fw_get da_cX4_at_0 11 rfl)
theorem dX4_at_26 : decode cX4_at 26 = .ok (.iload_n 1, 1) := fo_27 (fw_get da_cX4_at_0 12 rfl)
theorem dX4_at_27 : decode cX4_at 27 = .ok (.iaload, 1) := fo_46 (fw_get da_cX4_at_0 13 rfl)
theorem dX4_at_28 : decode cX4_at 28 = .ok (.ireturn, 1) := fo_172 (fw_get da_cX4_at_0 14 rfl)
set_option maxRecDepth 20000 in
theorem ggX4_vote_X0_hasRange : GoodIn wsX4_vote wsX0_hasRange := goodIn_r _ [12, 13, 142, 143] rfl (by decide +kernel)
set_option maxRecDepth 20000 in
theorem gX4_vote_X0_hasRange : GoodIn wsX4_vote (wsV RX4 79 RX0 yX0_hasRange wsX0_hasRange) := goodIn_app (goodIn_r _ [8, 9, 10, 11] rfl (by decide +kernel)) ggX4_vote_X0_hasRange
set_option maxRecDepth 20000 in
theorem ggX4_vote_X4_laidTree : GoodIn wsX4_vote wsX4_laidTree := goodIn_r _ [18, 19, 20, 21, 22, 3, 23, 24, 25, 26, 27, 28, 29, 30, 31, 32, 33, 34, 35, 36, 37, 38, 39, 40, 41, 42, 43, 44, 45, 46, 47, 48, 49, 50, 51, 52, 53, 54, 55, 56, 57, 58, 59, 60, 61, 62, 63, 64, 65, 66, 67, 68, 69, 70, 71, 72, 73, 74, 75, 76, 77, 78, 79, 80, 81, 82, 83, 84, 85, 86, 87, 88, 89, 90, 91, 92, 93, 94, 95, 96, 97, 98, 99, 100, 101, 102, 103, 104, 105, 106, 107, 108, 117, 118, 119, 120, 121, 122, 123, 124, 125, 126, 127, 128, 129, 130, 131, 132, 133, 134, 135, 136, 142, 143, 137, 138, 139, 140, 141] rfl (by decide +kernel)
set_option maxRecDepth 20000 in
theorem gX4_vote_X4_laidTree : GoodIn wsX4_vote (wsV RX4 71 RX4 yX4_laidTree wsX4_laidTree) := goodIn_app (goodIn_r _ [14, 15, 16, 17] rfl (by decide +kernel)) ggX4_vote_X4_laidTree
set_option maxRecDepth 20000 in
theorem ggX4_vote_X2_find : GoodIn wsX4_vote wsX2_find := goodIn_r _ [112, 31, 32, 33, 126, 127, 128, 129, 130, 131, 132, 133, 134, 135, 136] rfl (by decide +kernel)
set_option maxRecDepth 20000 in
theorem gX4_vote_X2_find : GoodIn wsX4_vote (wsV RX4 123 RX2 yX2_find wsX2_find) := goodIn_app (goodIn_r _ [109, 110, 111, 27] rfl (by decide +kernel)) ggX4_vote_X2_find
set_option maxRecDepth 20000 in
theorem ggX4_vote_X2_copyTo : GoodIn wsX4_vote wsX2_copyTo := goodIn_r _ [116, 53, 54, 55, 56, 57, 58, 59, 60, 67, 68, 69, 27, 70, 71, 72, 73, 74, 75, 61, 62, 63, 64, 65, 66, 137, 138, 139, 140, 141, 126, 127, 128, 129, 130, 131, 132, 133, 134, 135, 136] rfl (by decide +kernel)
set_option maxRecDepth 20000 in
theorem gX4_vote_X2_copyTo : GoodIn wsX4_vote (wsV RX4 129 RX2 yX2_copyTo wsX2_copyTo) := goodIn_app (goodIn_r _ [113, 114, 115, 27] rfl (by decide +kernel)) ggX4_vote_X2_copyTo
def dt_cX4_vote_0 : List (Nat × Nat × Nat × Nat) := [(0, 42, 0, 0), (1, 180, 2, 12), (4, 27, 0, 0), (5, 28, 0, 0), (6, 182, 2, 79), (9, 153, 2, 14), (12, 21, 1, 4), (14, 155, 2, 9), (17, 21, 1, 4), (19, 4, 0, 0), (20, 164, 2, 11), (23, 187, 2, 107), (26, 89, 0, 0), (27, 183, 2, 109), (30, 191, 0, 0), (31, 42, 0, 0), (32, 182, 2, 71), (35, 58, 1, 5), (37, 25, 1, 5), (39, 27, 0, 0)]
theorem da_cX4_vote_0 : fw dt_cX4_vote_0 0 cX4_vote.data.toList = true := by decide +kernel
theorem dX4_vote_0 : decode cX4_vote 0 = .ok (.aload_n 0, 1) := fo_42 (fw_get da_cX4_vote_0 0 rfl)
theorem dX4_vote_1 : decode cX4_vote 1 = .ok (.getfield 12, 3) := fo_180 (fw_get da_cX4_vote_0 1 rfl)
theorem dX4_vote_4 : decode cX4_vote 4 = .ok (.iload_n 1, 1) := fo_27 (fw_get da_cX4_vote_0 2 rfl)
theorem dX4_vote_5 : decode cX4_vote 5 = .ok (.iload_n 2, 1) := fo_28 (fw_get da_cX4_vote_0 3 rfl)
theorem dX4_vote_6 : decode cX4_vote 6 = .ok (.invokevirtual 79, 3) := fo_182 (fw_get da_cX4_vote_0 4 rfl)
theorem dX4_vote_9 : decode cX4_vote 9 = .ok (.ifCond .eq 14, 3) := fo_153 (fw_get da_cX4_vote_0 5 rfl) (by decide +kernel)
theorem dX4_vote_12 : decode cX4_vote 12 = .ok (.iload 4, 2) := fo_21 (fw_get da_cX4_vote_0 6 rfl)
theorem dX4_vote_14 : decode cX4_vote 14 = .ok (.ifCond .lt 9, 3) := fo_155 (fw_get da_cX4_vote_0 7 rfl) (by decide +kernel)
theorem dX4_vote_17 : decode cX4_vote 17 = .ok (.iload 4, 2) := fo_21 (fw_get da_cX4_vote_0 8 rfl)
theorem dX4_vote_19 : decode cX4_vote 19 = .ok (.iconst 1, 1) := fo_4 (fw_get da_cX4_vote_0 9 rfl)
theorem dX4_vote_20 : decode cX4_vote 20 = .ok (.if_icmp .le 11, 3) := fo_164 (fw_get da_cX4_vote_0 10 rfl) (by decide +kernel)
theorem dX4_vote_23 : decode cX4_vote 23 = .ok (.new 107, 3) := fo_187 (fw_get da_cX4_vote_0 11 rfl)
theorem dX4_vote_26 : decode cX4_vote 26 = .ok (.dup, 1) := fo_89 (fw_get da_cX4_vote_0 12 rfl)
theorem dX4_vote_27 : decode cX4_vote 27 = .ok (.invokespecial 109, 3) := fo_183 (fw_get da_cX4_vote_0 13 rfl)
theorem dX4_vote_30 : decode cX4_vote 30 = .ok (.athrow, 1) := fo_191 (fw_get da_cX4_vote_0 14 rfl)
theorem dX4_vote_31 : decode cX4_vote 31 = .ok (.aload_n 0, 1) := fo_42 (fw_get da_cX4_vote_0 15 rfl)
theorem dX4_vote_32 : decode cX4_vote 32 = .ok (.invokevirtual 71, 3) := fo_182 (fw_get da_cX4_vote_0 16 rfl)
theorem dX4_vote_35 : decode cX4_vote 35 = .ok (.astore 5, 2) := fo_58 (fw_get da_cX4_vote_0 17 rfl)
theorem dX4_vote_37 : decode cX4_vote 37 = .ok (.aload 5, 2) := fo_25 (fw_get da_cX4_vote_0 18 rfl)
theorem dX4_vote_39 : decode cX4_vote 39 = .ok (.iload_n 1, 1) := fo_27 (fw_get da_cX4_vote_0 19 rfl)
def dt_cX4_vote_1 : List (Nat × Nat × Nat × Nat) := [(40, 28, 0, 0), (41, 182, 2, 123), (44, 54, 1, 6), (46, 21, 1, 6), (48, 2, 0, 0), (49, 159, 2, 19), (52, 29, 0, 0), (53, 155, 2, 15), (56, 29, 0, 0), (57, 25, 1, 5), (59, 180, 2, 126), (62, 21, 1, 6), (64, 46, 0, 0), (65, 161, 2, 11), (68, 187, 2, 107), (71, 89, 0, 0), (72, 183, 2, 109), (75, 191, 0, 0), (76, 25, 1, 5), (78, 42, 0, 0)]
theorem da_cX4_vote_1 : fw dt_cX4_vote_1 0 cX4_vote.data.toList = true := by decide +kernel
theorem dX4_vote_40 : decode cX4_vote 40 = .ok (.iload_n 2, 1) := fo_28 (fw_get da_cX4_vote_1 0 rfl)
theorem dX4_vote_41 : decode cX4_vote 41 = .ok (.invokevirtual 123, 3) := fo_182 (fw_get da_cX4_vote_1 1 rfl)
theorem dX4_vote_44 : decode cX4_vote 44 = .ok (.istore 6, 2) := fo_54 (fw_get da_cX4_vote_1 2 rfl)
theorem dX4_vote_46 : decode cX4_vote 46 = .ok (.iload 6, 2) := fo_21 (fw_get da_cX4_vote_1 3 rfl)
theorem dX4_vote_48 : decode cX4_vote 48 = .ok (.iconst (-1), 1) := fo_2 (fw_get da_cX4_vote_1 4 rfl)
theorem dX4_vote_49 : decode cX4_vote 49 = .ok (.if_icmp .eq 19, 3) := fo_159 (fw_get da_cX4_vote_1 5 rfl) (by decide +kernel)
theorem dX4_vote_52 : decode cX4_vote 52 = .ok (.iload_n 3, 1) := fo_29 (fw_get da_cX4_vote_1 6 rfl)
theorem dX4_vote_53 : decode cX4_vote 53 = .ok (.ifCond .lt 15, 3) := fo_155 (fw_get da_cX4_vote_1 7 rfl) (by decide +kernel)
theorem dX4_vote_56 : decode cX4_vote 56 = .ok (.iload_n 3, 1) := fo_29 (fw_get da_cX4_vote_1 8 rfl)
theorem dX4_vote_57 : decode cX4_vote 57 = .ok (.aload 5, 2) := fo_25 (fw_get da_cX4_vote_1 9 rfl)
theorem dX4_vote_59 : decode cX4_vote 59 = .ok (.getfield 126, 3) := fo_180 (fw_get da_cX4_vote_1 10 rfl)
theorem dX4_vote_62 : decode cX4_vote 62 = .ok (.iload 6, 2) := fo_21 (fw_get da_cX4_vote_1 11 rfl)
theorem dX4_vote_64 : decode cX4_vote 64 = .ok (.iaload, 1) := fo_46 (fw_get da_cX4_vote_1 12 rfl)
theorem dX4_vote_65 : decode cX4_vote 65 = .ok (.if_icmp .lt 11, 3) := fo_161 (fw_get da_cX4_vote_1 13 rfl) (by decide +kernel)
theorem dX4_vote_68 : decode cX4_vote 68 = .ok (.new 107, 3) := fo_187 (fw_get da_cX4_vote_1 14 rfl)
theorem dX4_vote_71 : decode cX4_vote 71 = .ok (.dup, 1) := fo_89 (fw_get da_cX4_vote_1 15 rfl)
theorem dX4_vote_72 : decode cX4_vote 72 = .ok (.invokespecial 109, 3) := fo_183 (fw_get da_cX4_vote_1 16 rfl)
theorem dX4_vote_75 : decode cX4_vote 75 = .ok (.athrow, 1) := fo_191 (fw_get da_cX4_vote_1 17 rfl)
theorem dX4_vote_76 : decode cX4_vote 76 = .ok (.aload 5, 2) := fo_25 (fw_get da_cX4_vote_1 18 rfl)
theorem dX4_vote_78 : decode cX4_vote 78 = .ok (.aload_n 0, 1) := fo_42 (fw_get da_cX4_vote_1 19 rfl)
def dt_cX4_vote_2 : List (Nat × Nat × Nat × Nat) := [(79, 180, 2, 35), (82, 21, 1, 6), (84, 182, 2, 129), (87, 21, 1, 4), (89, 154, 2, 15), (92, 42, 0, 0), (93, 180, 2, 35), (96, 180, 2, 133), (99, 29, 0, 0), (100, 46, 0, 0), (101, 167, 2, 12), (104, 42, 0, 0), (105, 180, 2, 35), (108, 180, 2, 136), (111, 29, 0, 0), (112, 46, 0, 0), (113, 172, 0, 0)]
theorem da_cX4_vote_2 : fw dt_cX4_vote_2 0 cX4_vote.data.toList = true := by decide +kernel
theorem dX4_vote_79 : decode cX4_vote 79 = .ok (.getfield 35, 3) := fo_180 (fw_get da_cX4_vote_2 0 rfl)
theorem dX4_vote_82 : decode cX4_vote 82 = .ok (.iload 6, 2) := fo_21 (fw_get da_cX4_vote_2 1 rfl)
theorem dX4_vote_84 : decode cX4_vote 84 = .ok (.invokevirtual 129, 3) := fo_182 (fw_get da_cX4_vote_2 2 rfl)
theorem dX4_vote_87 : decode cX4_vote 87 = .ok (.iload 4, 2) := fo_21 (fw_get da_cX4_vote_2 3 rfl)
theorem dX4_vote_89 : decode cX4_vote 89 = .ok (.ifCond .ne 15, 3) := fo_154 (fw_get da_cX4_vote_2 4 rfl) (by decide +kernel)
theorem dX4_vote_92 : decode cX4_vote 92 = .ok (.aload_n 0, 1) := fo_42 (fw_get da_cX4_vote_2 5 rfl)
theorem dX4_vote_93 : decode cX4_vote 93 = .ok (.getfield 35, 3) := fo_180 (fw_get da_cX4_vote_2 6 rfl)
theorem dX4_vote_96 : decode cX4_vote 96 = .ok (.getfield 133, 3) := fo_180 (fw_get da_cX4_vote_2 7 rfl)
theorem dX4_vote_99 : decode cX4_vote 99 = .ok (.iload_n 3, 1) := fo_29 (fw_get da_cX4_vote_2 8 rfl)
theorem dX4_vote_100 : decode cX4_vote 100 = .ok (.iaload, 1) := fo_46 (fw_get da_cX4_vote_2 9 rfl)
theorem dX4_vote_101 : decode cX4_vote 101 = .ok (.goto 12, 3) := fo_167 (fw_get da_cX4_vote_2 10 rfl) (by decide +kernel)
theorem dX4_vote_104 : decode cX4_vote 104 = .ok (.aload_n 0, 1) := fo_42 (fw_get da_cX4_vote_2 11 rfl)
theorem dX4_vote_105 : decode cX4_vote 105 = .ok (.getfield 35, 3) := fo_180 (fw_get da_cX4_vote_2 12 rfl)
theorem dX4_vote_108 : decode cX4_vote 108 = .ok (.getfield 136, 3) := fo_180 (fw_get da_cX4_vote_2 13 rfl)
theorem dX4_vote_111 : decode cX4_vote 111 = .ok (.iload_n 3, 1) := fo_29 (fw_get da_cX4_vote_2 14 rfl)
theorem dX4_vote_112 : decode cX4_vote 112 = .ok (.iaload, 1) := fo_46 (fw_get da_cX4_vote_2 15 rfl)
theorem dX4_vote_113 : decode cX4_vote 113 = .ok (.ireturn, 1) := fo_172 (fw_get da_cX4_vote_2 16 rfl)
set_option maxRecDepth 20000 in
theorem ggX4_candidate_X0_hasRange : GoodIn wsX4_candidate wsX0_hasRange := goodIn_r _ [12, 13, 136, 137] rfl (by decide +kernel)
set_option maxRecDepth 20000 in
theorem gX4_candidate_X0_hasRange : GoodIn wsX4_candidate (wsV RX4 79 RX0 yX0_hasRange wsX0_hasRange) := goodIn_app (goodIn_r _ [8, 9, 10, 11] rfl (by decide +kernel)) ggX4_candidate_X0_hasRange
set_option maxRecDepth 20000 in
theorem ggX4_candidate_X4_laidTree : GoodIn wsX4_candidate wsX4_laidTree := goodIn_r _ [18, 19, 20, 21, 22, 3, 23, 24, 25, 26, 27, 28, 29, 30, 31, 32, 33, 34, 35, 36, 37, 38, 39, 40, 41, 42, 43, 44, 45, 46, 47, 48, 49, 50, 51, 52, 53, 54, 55, 56, 57, 58, 59, 60, 61, 62, 63, 64, 65, 66, 67, 68, 69, 70, 71, 72, 73, 74, 75, 76, 77, 78, 79, 80, 81, 82, 83, 84, 85, 86, 87, 88, 89, 90, 91, 92, 93, 94, 95, 96, 97, 98, 99, 100, 101, 102, 103, 104, 105, 106, 107, 108, 122, 123, 124, 125, 126, 127, 128, 129, 130, 138, 139, 140, 141, 142, 143, 144, 145, 146, 147, 148, 136, 137, 131, 132, 133, 134, 135] rfl (by decide +kernel)
set_option maxRecDepth 20000 in
theorem gX4_candidate_X4_laidTree : GoodIn wsX4_candidate (wsV RX4 71 RX4 yX4_laidTree wsX4_laidTree) := goodIn_app (goodIn_r _ [14, 15, 16, 17] rfl (by decide +kernel)) ggX4_candidate_X4_laidTree
set_option maxRecDepth 20000 in
theorem ggX4_candidate_X2_gather : GoodIn wsX4_candidate wsX2_gather := goodIn_r _ [112, 31, 33, 52, 53, 54, 55, 56, 57, 58, 59, 60, 113, 114, 115, 27, 116, 32, 67, 68, 69, 70, 71, 72, 73, 74, 75, 61, 62, 63, 64, 65, 66, 76, 77, 78, 79, 80, 81, 82, 83, 84, 85, 86, 87, 88, 89, 90, 91, 138, 139, 140, 141, 142, 143, 144, 145, 146, 147, 148, 131, 132, 133, 134, 135] rfl (by decide +kernel)
set_option maxRecDepth 20000 in
theorem gX4_candidate_X2_gather : GoodIn wsX4_candidate (wsV RX4 170 RX2 yX2_gather wsX2_gather) := goodIn_app (goodIn_r _ [109, 110, 111, 27] rfl (by decide +kernel)) ggX4_candidate_X2_gather
set_option maxRecDepth 20000 in
theorem ggX4_candidate_X0_oftenIn : GoodIn wsX4_candidate wsX0_oftenIn := goodIn_r _ [120, 121, 136, 137] rfl (by decide +kernel)
set_option maxRecDepth 20000 in
theorem gX4_candidate_X0_oftenIn : GoodIn wsX4_candidate (wsV RX4 113 RX0 yX0_oftenIn wsX0_oftenIn) := goodIn_app (goodIn_r _ [117, 118, 119, 11] rfl (by decide +kernel)) ggX4_candidate_X0_oftenIn
def dt_cX4_candidate_0 : List (Nat × Nat × Nat × Nat) := [(0, 42, 0, 0), (1, 180, 2, 12), (4, 27, 0, 0), (5, 28, 0, 0), (6, 182, 2, 79), (9, 153, 2, 18), (12, 29, 0, 0), (13, 155, 2, 14), (16, 21, 1, 4), (18, 155, 2, 9), (21, 21, 1, 4), (23, 5, 0, 0), (24, 164, 2, 11), (27, 187, 2, 107), (30, 89, 0, 0), (31, 183, 2, 109), (34, 191, 0, 0), (35, 42, 0, 0), (36, 182, 2, 71), (39, 42, 0, 0)]
theorem da_cX4_candidate_0 : fw dt_cX4_candidate_0 0 cX4_candidate.data.toList = true := by decide +kernel
theorem dX4_candidate_0 : decode cX4_candidate 0 = .ok (.aload_n 0, 1) := fo_42 (fw_get da_cX4_candidate_0 0 rfl)
theorem dX4_candidate_1 : decode cX4_candidate 1 = .ok (.getfield 12, 3) := fo_180 (fw_get da_cX4_candidate_0 1 rfl)
theorem dX4_candidate_4 : decode cX4_candidate 4 = .ok (.iload_n 1, 1) := fo_27 (fw_get da_cX4_candidate_0 2 rfl)
theorem dX4_candidate_5 : decode cX4_candidate 5 = .ok (.iload_n 2, 1) := fo_28 (fw_get da_cX4_candidate_0 3 rfl)
theorem dX4_candidate_6 : decode cX4_candidate 6 = .ok (.invokevirtual 79, 3) := fo_182 (fw_get da_cX4_candidate_0 4 rfl)
theorem dX4_candidate_9 : decode cX4_candidate 9 = .ok (.ifCond .eq 18, 3) := fo_153 (fw_get da_cX4_candidate_0 5 rfl) (by decide +kernel)
theorem dX4_candidate_12 : decode cX4_candidate 12 = .ok (.iload_n 3, 1) := fo_29 (fw_get da_cX4_candidate_0 6 rfl)
theorem dX4_candidate_13 : decode cX4_candidate 13 = .ok (.ifCond .lt 14, 3) := fo_155 (fw_get da_cX4_candidate_0 7 rfl) (by decide +kernel)
theorem dX4_candidate_16 : decode cX4_candidate 16 = .ok (.iload 4, 2) := fo_21 (fw_get da_cX4_candidate_0 8 rfl)
theorem dX4_candidate_18 : decode cX4_candidate 18 = .ok (.ifCond .lt 9, 3) := fo_155 (fw_get da_cX4_candidate_0 9 rfl) (by decide +kernel)
theorem dX4_candidate_21 : decode cX4_candidate 21 = .ok (.iload 4, 2) := fo_21 (fw_get da_cX4_candidate_0 10 rfl)
theorem dX4_candidate_23 : decode cX4_candidate 23 = .ok (.iconst 2, 1) := fo_5 (fw_get da_cX4_candidate_0 11 rfl)
theorem dX4_candidate_24 : decode cX4_candidate 24 = .ok (.if_icmp .le 11, 3) := fo_164 (fw_get da_cX4_candidate_0 12 rfl) (by decide +kernel)
theorem dX4_candidate_27 : decode cX4_candidate 27 = .ok (.new 107, 3) := fo_187 (fw_get da_cX4_candidate_0 13 rfl)
theorem dX4_candidate_30 : decode cX4_candidate 30 = .ok (.dup, 1) := fo_89 (fw_get da_cX4_candidate_0 14 rfl)
theorem dX4_candidate_31 : decode cX4_candidate 31 = .ok (.invokespecial 109, 3) := fo_183 (fw_get da_cX4_candidate_0 15 rfl)
theorem dX4_candidate_34 : decode cX4_candidate 34 = .ok (.athrow, 1) := fo_191 (fw_get da_cX4_candidate_0 16 rfl)
theorem dX4_candidate_35 : decode cX4_candidate 35 = .ok (.aload_n 0, 1) := fo_42 (fw_get da_cX4_candidate_0 17 rfl)
theorem dX4_candidate_36 : decode cX4_candidate 36 = .ok (.invokevirtual 71, 3) := fo_182 (fw_get da_cX4_candidate_0 18 rfl)
theorem dX4_candidate_39 : decode cX4_candidate 39 = .ok (.aload_n 0, 1) := fo_42 (fw_get da_cX4_candidate_0 19 rfl)
def dt_cX4_candidate_1 : List (Nat × Nat × Nat × Nat) := [(40, 180, 2, 35), (43, 27, 0, 0), (44, 28, 0, 0), (45, 182, 2, 170), (48, 29, 0, 0), (49, 42, 0, 0), (50, 180, 2, 35), (53, 180, 2, 174), (56, 161, 2, 11), (59, 187, 2, 107), (62, 89, 0, 0), (63, 183, 2, 109), (66, 191, 0, 0), (67, 21, 1, 4)]
theorem da_cX4_candidate_1 : fw dt_cX4_candidate_1 0 cX4_candidate.data.toList = true := by decide +kernel
theorem dX4_candidate_40 : decode cX4_candidate 40 = .ok (.getfield 35, 3) := fo_180 (fw_get da_cX4_candidate_1 0 rfl)
theorem dX4_candidate_43 : decode cX4_candidate 43 = .ok (.iload_n 1, 1) := fo_27 (fw_get da_cX4_candidate_1 1 rfl)
theorem dX4_candidate_44 : decode cX4_candidate 44 = .ok (.iload_n 2, 1) := fo_28 (fw_get da_cX4_candidate_1 2 rfl)
theorem dX4_candidate_45 : decode cX4_candidate 45 = .ok (.invokevirtual 170, 3) := fo_182 (fw_get da_cX4_candidate_1 3 rfl)
theorem dX4_candidate_48 : decode cX4_candidate 48 = .ok (.iload_n 3, 1) := fo_29 (fw_get da_cX4_candidate_1 4 rfl)
theorem dX4_candidate_49 : decode cX4_candidate 49 = .ok (.aload_n 0, 1) := fo_42 (fw_get da_cX4_candidate_1 5 rfl)
theorem dX4_candidate_50 : decode cX4_candidate 50 = .ok (.getfield 35, 3) := fo_180 (fw_get da_cX4_candidate_1 6 rfl)
theorem dX4_candidate_53 : decode cX4_candidate 53 = .ok (.getfield 174, 3) := fo_180 (fw_get da_cX4_candidate_1 7 rfl)
theorem dX4_candidate_56 : decode cX4_candidate 56 = .ok (.if_icmp .lt 11, 3) := fo_161 (fw_get da_cX4_candidate_1 8 rfl) (by decide +kernel)
theorem dX4_candidate_59 : decode cX4_candidate 59 = .ok (.new 107, 3) := fo_187 (fw_get da_cX4_candidate_1 9 rfl)
theorem dX4_candidate_62 : decode cX4_candidate 62 = .ok (.dup, 1) := fo_89 (fw_get da_cX4_candidate_1 10 rfl)
theorem dX4_candidate_63 : decode cX4_candidate 63 = .ok (.invokespecial 109, 3) := fo_183 (fw_get da_cX4_candidate_1 11 rfl)
theorem dX4_candidate_66 : decode cX4_candidate 66 = .ok (.athrow, 1) := fo_191 (fw_get da_cX4_candidate_1 12 rfl)
theorem dX4_candidate_67 : decode cX4_candidate 67 = .ok (.iload 4, 2) := fo_21 (fw_get da_cX4_candidate_1 13 rfl)
theorem dX4_candidate_69 : decode cX4_candidate 69 = .ok (.lookupswitch 47 #[(0, 27), (1, 37)], 27) := by decide +kernel
def dt_cX4_candidate_2 : List (Nat × Nat × Nat × Nat) := [(96, 42, 0, 0), (97, 180, 2, 35), (100, 180, 2, 133), (103, 29, 0, 0), (104, 46, 0, 0), (105, 172, 0, 0), (106, 42, 0, 0), (107, 180, 2, 35), (110, 180, 2, 136), (113, 29, 0, 0), (114, 46, 0, 0), (115, 172, 0, 0), (116, 42, 0, 0), (117, 180, 2, 12), (120, 42, 0, 0), (121, 180, 2, 35), (124, 180, 2, 133), (127, 29, 0, 0), (128, 46, 0, 0), (129, 27, 0, 0)]
theorem da_cX4_candidate_2 : fw dt_cX4_candidate_2 0 cX4_candidate.data.toList = true := by decide +kernel
theorem dX4_candidate_96 : decode cX4_candidate 96 = .ok (.aload_n 0, 1) := fo_42 (fw_get da_cX4_candidate_2 0 rfl)
theorem dX4_candidate_97 : decode cX4_candidate 97 = .ok (.getfield 35, 3) := fo_180 (fw_get da_cX4_candidate_2 1 rfl)
theorem dX4_candidate_100 : decode cX4_candidate 100 = .ok (.getfield 133, 3) := fo_180 (fw_get da_cX4_candidate_2 2 rfl)
theorem dX4_candidate_103 : decode cX4_candidate 103 = .ok (.iload_n 3, 1) := fo_29 (fw_get da_cX4_candidate_2 3 rfl)
theorem dX4_candidate_104 : decode cX4_candidate 104 = .ok (.iaload, 1) := fo_46 (fw_get da_cX4_candidate_2 4 rfl)
theorem dX4_candidate_105 : decode cX4_candidate 105 = .ok (.ireturn, 1) := fo_172 (fw_get da_cX4_candidate_2 5 rfl)
theorem dX4_candidate_106 : decode cX4_candidate 106 = .ok (.aload_n 0, 1) := fo_42 (fw_get da_cX4_candidate_2 6 rfl)
theorem dX4_candidate_107 : decode cX4_candidate 107 = .ok (.getfield 35, 3) := fo_180 (fw_get da_cX4_candidate_2 7 rfl)
theorem dX4_candidate_110 : decode cX4_candidate 110 = .ok (.getfield 136, 3) := fo_180 (fw_get da_cX4_candidate_2 8 rfl)
theorem dX4_candidate_113 : decode cX4_candidate 113 = .ok (.iload_n 3, 1) := fo_29 (fw_get da_cX4_candidate_2 9 rfl)
theorem dX4_candidate_114 : decode cX4_candidate 114 = .ok (.iaload, 1) := fo_46 (fw_get da_cX4_candidate_2 10 rfl)
theorem dX4_candidate_115 : decode cX4_candidate 115 = .ok (.ireturn, 1) := fo_172 (fw_get da_cX4_candidate_2 11 rfl)
theorem dX4_candidate_116 : decode cX4_candidate 116 = .ok (.aload_n 0, 1) := fo_42 (fw_get da_cX4_candidate_2 12 rfl)
theorem dX4_candidate_117 : decode cX4_candidate 117 = .ok (.getfield 12, 3) := fo_180 (fw_get da_cX4_candidate_2 13 rfl)
theorem dX4_candidate_120 : decode cX4_candidate 120 = .ok (.aload_n 0, 1) := fo_42 (fw_get da_cX4_candidate_2 14 rfl)
theorem dX4_candidate_121 : decode cX4_candidate 121 = .ok (.getfield 35, 3) := fo_180 (fw_get da_cX4_candidate_2 15 rfl)
theorem dX4_candidate_124 : decode cX4_candidate 124 = .ok (.getfield 133, 3) := fo_180 (fw_get da_cX4_candidate_2 16 rfl)
theorem dX4_candidate_127 : decode cX4_candidate 127 = .ok (.iload_n 3, 1) := fo_29 (fw_get da_cX4_candidate_2 17 rfl)
theorem dX4_candidate_128 : decode cX4_candidate 128 = .ok (.iaload, 1) := fo_46 (fw_get da_cX4_candidate_2 18 rfl)
theorem dX4_candidate_129 : decode cX4_candidate 129 = .ok (.iload_n 1, 1) := fo_27 (fw_get da_cX4_candidate_2 19 rfl)
def dt_cX4_candidate_3 : List (Nat × Nat × Nat × Nat) := [(130, 28, 0, 0), (131, 182, 2, 113), (134, 172, 0, 0)]
theorem da_cX4_candidate_3 : fw dt_cX4_candidate_3 0 cX4_candidate.data.toList = true := by decide +kernel
theorem dX4_candidate_130 : decode cX4_candidate 130 = .ok (.iload_n 2, 1) := fo_28 (fw_get da_cX4_candidate_3 0 rfl)
theorem dX4_candidate_131 : decode cX4_candidate 131 = .ok (.invokevirtual 113, 3) := fo_182 (fw_get da_cX4_candidate_3 1 rfl)
theorem dX4_candidate_134 : decode cX4_candidate 134 = .ok (.ireturn, 1) := fo_172 (fw_get da_cX4_candidate_3 2 rfl)
set_option maxRecDepth 20000 in
theorem ggX4_heavyAt_X0_hasRange : GoodIn wsX4_heavyAt wsX0_hasRange := goodIn_r _ [12, 13, 153, 154] rfl (by decide +kernel)
set_option maxRecDepth 20000 in
theorem gX4_heavyAt_X0_hasRange : GoodIn wsX4_heavyAt (wsV RX4 79 RX0 yX0_hasRange wsX0_hasRange) := goodIn_app (goodIn_r _ [8, 9, 10, 11] rfl (by decide +kernel)) ggX4_heavyAt_X0_hasRange
set_option maxRecDepth 20000 in
theorem ggX4_heavyAt_X4_isShare : GoodIn wsX4_heavyAt wsX4_isShare := goodIn_r _ [17] rfl (by decide +kernel)
set_option maxRecDepth 20000 in
theorem gX4_heavyAt_X4_isShare : GoodIn wsX4_heavyAt (va_wsS RX4 186 yX4_isShare wsX4_isShare) := goodIn_app (goodIn_r _ [14, 15, 16] rfl (by decide +kernel)) ggX4_heavyAt_X4_isShare
set_option maxRecDepth 20000 in
theorem ggX4_heavyAt_X4_isEnough : GoodIn wsX4_heavyAt wsX4_isEnough := goodIn_r _ [21, 22, 139, 140, 141, 142, 143, 144, 145, 146, 147] rfl (by decide +kernel)
set_option maxRecDepth 20000 in
theorem gX4_heavyAt_X4_isEnough : GoodIn wsX4_heavyAt (wsV RX4 189 RX4 yX4_isEnough wsX4_isEnough) := goodIn_app (goodIn_r _ [18, 19, 20, 16] rfl (by decide +kernel)) ggX4_heavyAt_X4_isEnough
set_option maxRecDepth 20000 in
theorem ggX4_heavyAt_X4_laidTree : GoodIn wsX4_heavyAt wsX4_laidTree := goodIn_r _ [26, 27, 28, 22, 29, 3, 30, 31, 32, 33, 34, 35, 36, 37, 38, 39, 40, 41, 42, 43, 44, 45, 46, 47, 48, 49, 50, 51, 52, 53, 54, 55, 56, 57, 58, 59, 60, 61, 62, 63, 64, 65, 66, 67, 68, 69, 70, 71, 72, 73, 74, 75, 76, 77, 78, 79, 80, 81, 82, 83, 84, 85, 86, 87, 88, 89, 90, 91, 92, 93, 94, 95, 96, 97, 98, 99, 100, 101, 102, 103, 104, 105, 106, 107, 108, 109, 110, 111, 112, 113, 114, 115, 139, 140, 141, 142, 143, 144, 145, 146, 147, 155, 156, 157, 158, 159, 160, 161, 162, 163, 164, 165, 153, 154, 148, 149, 150, 151, 152] rfl (by decide +kernel)
set_option maxRecDepth 20000 in
theorem gX4_heavyAt_X4_laidTree : GoodIn wsX4_heavyAt (wsV RX4 71 RX4 yX4_laidTree wsX4_laidTree) := goodIn_app (goodIn_r _ [23, 24, 25, 16] rfl (by decide +kernel)) ggX4_heavyAt_X4_laidTree
set_option maxRecDepth 20000 in
theorem ggX4_heavyAt_X4_gatherHeavy : GoodIn wsX4_heavyAt wsX4_gatherHeavy := goodIn_r _ [119, 4, 5, 7, 3, 6, 120, 121, 122, 34, 123, 38, 40, 59, 60, 61, 62, 63, 64, 65, 66, 67, 124, 125, 126, 127, 39, 74, 75, 76, 77, 78, 79, 80, 81, 82, 68, 69, 70, 71, 72, 73, 83, 84, 85, 86, 87, 88, 89, 90, 91, 92, 93, 94, 95, 96, 97, 98, 128, 129, 130, 11, 131, 132, 133, 134, 135, 136, 137, 16, 138, 139, 140, 141, 142, 143, 144, 145, 146, 147, 148, 149, 150, 151, 152, 155, 156, 157, 158, 159, 160, 161, 162, 163, 164, 165, 153, 154] rfl (by decide +kernel)
set_option maxRecDepth 20000 in
theorem gX4_heavyAt_X4_gatherHeavy : GoodIn wsX4_heavyAt (wsV RX4 192 RX4 yX4_gatherHeavy wsX4_gatherHeavy) := goodIn_app (goodIn_r _ [116, 117, 118, 16] rfl (by decide +kernel)) ggX4_heavyAt_X4_gatherHeavy
def dt_cX4_heavyAt_0 : List (Nat × Nat × Nat × Nat) := [(0, 42, 0, 0), (1, 180, 2, 12), (4, 27, 0, 0), (5, 28, 0, 0), (6, 182, 2, 79), (9, 153, 2, 28), (12, 29, 0, 0), (13, 21, 1, 4), (15, 184, 2, 186), (18, 153, 2, 19), (21, 21, 1, 5), (23, 155, 2, 14), (26, 21, 1, 6), (28, 155, 2, 9), (31, 21, 1, 6), (33, 4, 0, 0), (34, 164, 2, 11), (37, 187, 2, 107), (40, 89, 0, 0), (41, 183, 2, 109)]
theorem da_cX4_heavyAt_0 : fw dt_cX4_heavyAt_0 0 cX4_heavyAt.data.toList = true := by decide +kernel
theorem dX4_heavyAt_0 : decode cX4_heavyAt 0 = .ok (.aload_n 0, 1) := fo_42 (fw_get da_cX4_heavyAt_0 0 rfl)
theorem dX4_heavyAt_1 : decode cX4_heavyAt 1 = .ok (.getfield 12, 3) := fo_180 (fw_get da_cX4_heavyAt_0 1 rfl)
theorem dX4_heavyAt_4 : decode cX4_heavyAt 4 = .ok (.iload_n 1, 1) := fo_27 (fw_get da_cX4_heavyAt_0 2 rfl)
theorem dX4_heavyAt_5 : decode cX4_heavyAt 5 = .ok (.iload_n 2, 1) := fo_28 (fw_get da_cX4_heavyAt_0 3 rfl)
theorem dX4_heavyAt_6 : decode cX4_heavyAt 6 = .ok (.invokevirtual 79, 3) := fo_182 (fw_get da_cX4_heavyAt_0 4 rfl)
theorem dX4_heavyAt_9 : decode cX4_heavyAt 9 = .ok (.ifCond .eq 28, 3) := fo_153 (fw_get da_cX4_heavyAt_0 5 rfl) (by decide +kernel)
theorem dX4_heavyAt_12 : decode cX4_heavyAt 12 = .ok (.iload_n 3, 1) := fo_29 (fw_get da_cX4_heavyAt_0 6 rfl)
theorem dX4_heavyAt_13 : decode cX4_heavyAt 13 = .ok (.iload 4, 2) := fo_21 (fw_get da_cX4_heavyAt_0 7 rfl)
theorem dX4_heavyAt_15 : decode cX4_heavyAt 15 = .ok (.invokestatic 186, 3) := fo_184 (fw_get da_cX4_heavyAt_0 8 rfl)
theorem dX4_heavyAt_18 : decode cX4_heavyAt 18 = .ok (.ifCond .eq 19, 3) := fo_153 (fw_get da_cX4_heavyAt_0 9 rfl) (by decide +kernel)
theorem dX4_heavyAt_21 : decode cX4_heavyAt 21 = .ok (.iload 5, 2) := fo_21 (fw_get da_cX4_heavyAt_0 10 rfl)
theorem dX4_heavyAt_23 : decode cX4_heavyAt 23 = .ok (.ifCond .lt 14, 3) := fo_155 (fw_get da_cX4_heavyAt_0 11 rfl) (by decide +kernel)
theorem dX4_heavyAt_26 : decode cX4_heavyAt 26 = .ok (.iload 6, 2) := fo_21 (fw_get da_cX4_heavyAt_0 12 rfl)
theorem dX4_heavyAt_28 : decode cX4_heavyAt 28 = .ok (.ifCond .lt 9, 3) := fo_155 (fw_get da_cX4_heavyAt_0 13 rfl) (by decide +kernel)
theorem dX4_heavyAt_31 : decode cX4_heavyAt 31 = .ok (.iload 6, 2) := fo_21 (fw_get da_cX4_heavyAt_0 14 rfl)
theorem dX4_heavyAt_33 : decode cX4_heavyAt 33 = .ok (.iconst 1, 1) := fo_4 (fw_get da_cX4_heavyAt_0 15 rfl)
theorem dX4_heavyAt_34 : decode cX4_heavyAt 34 = .ok (.if_icmp .le 11, 3) := fo_164 (fw_get da_cX4_heavyAt_0 16 rfl) (by decide +kernel)
theorem dX4_heavyAt_37 : decode cX4_heavyAt 37 = .ok (.new 107, 3) := fo_187 (fw_get da_cX4_heavyAt_0 17 rfl)
theorem dX4_heavyAt_40 : decode cX4_heavyAt 40 = .ok (.dup, 1) := fo_89 (fw_get da_cX4_heavyAt_0 18 rfl)
theorem dX4_heavyAt_41 : decode cX4_heavyAt 41 = .ok (.invokespecial 109, 3) := fo_183 (fw_get da_cX4_heavyAt_0 19 rfl)
def dt_cX4_heavyAt_1 : List (Nat × Nat × Nat × Nat) := [(44, 191, 0, 0), (45, 42, 0, 0), (46, 29, 0, 0), (47, 21, 1, 4), (49, 182, 2, 189), (52, 154, 2, 11), (55, 187, 2, 107), (58, 89, 0, 0), (59, 183, 2, 109), (62, 191, 0, 0), (63, 42, 0, 0), (64, 42, 0, 0), (65, 182, 2, 71), (68, 27, 0, 0), (69, 28, 0, 0), (70, 29, 0, 0), (71, 21, 1, 4), (73, 182, 2, 192), (76, 21, 1, 5), (78, 42, 0, 0)]
theorem da_cX4_heavyAt_1 : fw dt_cX4_heavyAt_1 0 cX4_heavyAt.data.toList = true := by decide +kernel
theorem dX4_heavyAt_44 : decode cX4_heavyAt 44 = .ok (.athrow, 1) := fo_191 (fw_get da_cX4_heavyAt_1 0 rfl)
theorem dX4_heavyAt_45 : decode cX4_heavyAt 45 = .ok (.aload_n 0, 1) := fo_42 (fw_get da_cX4_heavyAt_1 1 rfl)
theorem dX4_heavyAt_46 : decode cX4_heavyAt 46 = .ok (.iload_n 3, 1) := fo_29 (fw_get da_cX4_heavyAt_1 2 rfl)
theorem dX4_heavyAt_47 : decode cX4_heavyAt 47 = .ok (.iload 4, 2) := fo_21 (fw_get da_cX4_heavyAt_1 3 rfl)
theorem dX4_heavyAt_49 : decode cX4_heavyAt 49 = .ok (.invokevirtual 189, 3) := fo_182 (fw_get da_cX4_heavyAt_1 4 rfl)
theorem dX4_heavyAt_52 : decode cX4_heavyAt 52 = .ok (.ifCond .ne 11, 3) := fo_154 (fw_get da_cX4_heavyAt_1 5 rfl) (by decide +kernel)
theorem dX4_heavyAt_55 : decode cX4_heavyAt 55 = .ok (.new 107, 3) := fo_187 (fw_get da_cX4_heavyAt_1 6 rfl)
theorem dX4_heavyAt_58 : decode cX4_heavyAt 58 = .ok (.dup, 1) := fo_89 (fw_get da_cX4_heavyAt_1 7 rfl)
theorem dX4_heavyAt_59 : decode cX4_heavyAt 59 = .ok (.invokespecial 109, 3) := fo_183 (fw_get da_cX4_heavyAt_1 8 rfl)
theorem dX4_heavyAt_62 : decode cX4_heavyAt 62 = .ok (.athrow, 1) := fo_191 (fw_get da_cX4_heavyAt_1 9 rfl)
theorem dX4_heavyAt_63 : decode cX4_heavyAt 63 = .ok (.aload_n 0, 1) := fo_42 (fw_get da_cX4_heavyAt_1 10 rfl)
theorem dX4_heavyAt_64 : decode cX4_heavyAt 64 = .ok (.aload_n 0, 1) := fo_42 (fw_get da_cX4_heavyAt_1 11 rfl)
theorem dX4_heavyAt_65 : decode cX4_heavyAt 65 = .ok (.invokevirtual 71, 3) := fo_182 (fw_get da_cX4_heavyAt_1 12 rfl)
theorem dX4_heavyAt_68 : decode cX4_heavyAt 68 = .ok (.iload_n 1, 1) := fo_27 (fw_get da_cX4_heavyAt_1 13 rfl)
theorem dX4_heavyAt_69 : decode cX4_heavyAt 69 = .ok (.iload_n 2, 1) := fo_28 (fw_get da_cX4_heavyAt_1 14 rfl)
theorem dX4_heavyAt_70 : decode cX4_heavyAt 70 = .ok (.iload_n 3, 1) := fo_29 (fw_get da_cX4_heavyAt_1 15 rfl)
theorem dX4_heavyAt_71 : decode cX4_heavyAt 71 = .ok (.iload 4, 2) := fo_21 (fw_get da_cX4_heavyAt_1 16 rfl)
theorem dX4_heavyAt_73 : decode cX4_heavyAt 73 = .ok (.invokevirtual 192, 3) := fo_182 (fw_get da_cX4_heavyAt_1 17 rfl)
theorem dX4_heavyAt_76 : decode cX4_heavyAt 76 = .ok (.iload 5, 2) := fo_21 (fw_get da_cX4_heavyAt_1 18 rfl)
theorem dX4_heavyAt_78 : decode cX4_heavyAt 78 = .ok (.aload_n 0, 1) := fo_42 (fw_get da_cX4_heavyAt_1 19 rfl)
def dt_cX4_heavyAt_2 : List (Nat × Nat × Nat × Nat) := [(79, 180, 2, 35), (82, 180, 2, 174), (85, 161, 2, 11), (88, 187, 2, 107), (91, 89, 0, 0), (92, 183, 2, 109), (95, 191, 0, 0), (96, 21, 1, 6), (98, 154, 2, 16), (101, 42, 0, 0), (102, 180, 2, 35), (105, 180, 2, 133), (108, 21, 1, 5), (110, 46, 0, 0), (111, 167, 2, 13), (114, 42, 0, 0), (115, 180, 2, 35), (118, 180, 2, 136), (121, 21, 1, 5), (123, 46, 0, 0)]
theorem da_cX4_heavyAt_2 : fw dt_cX4_heavyAt_2 0 cX4_heavyAt.data.toList = true := by decide +kernel
theorem dX4_heavyAt_79 : decode cX4_heavyAt 79 = .ok (.getfield 35, 3) := fo_180 (fw_get da_cX4_heavyAt_2 0 rfl)
theorem dX4_heavyAt_82 : decode cX4_heavyAt 82 = .ok (.getfield 174, 3) := fo_180 (fw_get da_cX4_heavyAt_2 1 rfl)
theorem dX4_heavyAt_85 : decode cX4_heavyAt 85 = .ok (.if_icmp .lt 11, 3) := fo_161 (fw_get da_cX4_heavyAt_2 2 rfl) (by decide +kernel)
theorem dX4_heavyAt_88 : decode cX4_heavyAt 88 = .ok (.new 107, 3) := fo_187 (fw_get da_cX4_heavyAt_2 3 rfl)
theorem dX4_heavyAt_91 : decode cX4_heavyAt 91 = .ok (.dup, 1) := fo_89 (fw_get da_cX4_heavyAt_2 4 rfl)
theorem dX4_heavyAt_92 : decode cX4_heavyAt 92 = .ok (.invokespecial 109, 3) := fo_183 (fw_get da_cX4_heavyAt_2 5 rfl)
theorem dX4_heavyAt_95 : decode cX4_heavyAt 95 = .ok (.athrow, 1) := fo_191 (fw_get da_cX4_heavyAt_2 6 rfl)
theorem dX4_heavyAt_96 : decode cX4_heavyAt 96 = .ok (.iload 6, 2) := fo_21 (fw_get da_cX4_heavyAt_2 7 rfl)
theorem dX4_heavyAt_98 : decode cX4_heavyAt 98 = .ok (.ifCond .ne 16, 3) := fo_154 (fw_get da_cX4_heavyAt_2 8 rfl) (by decide +kernel)
theorem dX4_heavyAt_101 : decode cX4_heavyAt 101 = .ok (.aload_n 0, 1) := fo_42 (fw_get da_cX4_heavyAt_2 9 rfl)
theorem dX4_heavyAt_102 : decode cX4_heavyAt 102 = .ok (.getfield 35, 3) := fo_180 (fw_get da_cX4_heavyAt_2 10 rfl)
theorem dX4_heavyAt_105 : decode cX4_heavyAt 105 = .ok (.getfield 133, 3) := fo_180 (fw_get da_cX4_heavyAt_2 11 rfl)
theorem dX4_heavyAt_108 : decode cX4_heavyAt 108 = .ok (.iload 5, 2) := fo_21 (fw_get da_cX4_heavyAt_2 12 rfl)
theorem dX4_heavyAt_110 : decode cX4_heavyAt 110 = .ok (.iaload, 1) := fo_46 (fw_get da_cX4_heavyAt_2 13 rfl)
theorem dX4_heavyAt_111 : decode cX4_heavyAt 111 = .ok (.goto 13, 3) := fo_167 (fw_get da_cX4_heavyAt_2 14 rfl) (by decide +kernel)
theorem dX4_heavyAt_114 : decode cX4_heavyAt 114 = .ok (.aload_n 0, 1) := fo_42 (fw_get da_cX4_heavyAt_2 15 rfl)
theorem dX4_heavyAt_115 : decode cX4_heavyAt 115 = .ok (.getfield 35, 3) := fo_180 (fw_get da_cX4_heavyAt_2 16 rfl)
theorem dX4_heavyAt_118 : decode cX4_heavyAt 118 = .ok (.getfield 136, 3) := fo_180 (fw_get da_cX4_heavyAt_2 17 rfl)
theorem dX4_heavyAt_121 : decode cX4_heavyAt 121 = .ok (.iload 5, 2) := fo_21 (fw_get da_cX4_heavyAt_2 18 rfl)
theorem dX4_heavyAt_123 : decode cX4_heavyAt 123 = .ok (.iaload, 1) := fo_46 (fw_get da_cX4_heavyAt_2 19 rfl)
def dt_cX4_heavyAt_3 : List (Nat × Nat × Nat × Nat) := [(124, 172, 0, 0)]
theorem da_cX4_heavyAt_3 : fw dt_cX4_heavyAt_3 0 cX4_heavyAt.data.toList = true := by decide +kernel
theorem dX4_heavyAt_124 : decode cX4_heavyAt 124 = .ok (.ireturn, 1) := fo_172 (fw_get da_cX4_heavyAt_3 0 rfl)

