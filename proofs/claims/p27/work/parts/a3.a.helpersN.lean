def RL : String := "MajorityIndexLaw"
abbrev cL_at : ByteArray := method_3_code
def yL_at : MethodName := ⟨RL, "at", "(LMajorityIndex;I[J)I"⟩
abbrev cL_vote : ByteArray := method_4_code
def yL_vote : MethodName := ⟨RL, "vote", "(LMajorityIndex;IIII[J)I"⟩
abbrev cL_candidate : ByteArray := method_5_code
def yL_candidate : MethodName := ⟨RL, "candidate", "(LMajorityIndex;IIII[J)I"⟩
abbrev cL_heavyAt : ByteArray := method_6_code
def yL_heavyAt : MethodName := ⟨RL, "heavyAt", "(LMajorityIndex;IIIIII[J)I"⟩
def wsL_at : List Cond := .codeWith yL_at cL_at 4 (some .int) [(0, 9, 12, 13)] :: ([.classLink RL 13 "java/util/NoSuchElementException", .methodLink RL 7 yX4_at, .instanceMethod yX4_at, .selects RX4 yX4_at yX4_at, .initialized RX4, .code yX4_at cX4_at 2 (some .int), .classLink RX4 107 "java/util/NoSuchElementException", .initialized "java/util/NoSuchElementException", .fieldLink RX4 12 "MajorityIndex" "row" "LMajorityIndex$Row;", .fieldLink RX4 110 "MajorityIndex$Row" "cell" "[I", .methodLink RX4 64 yX0_hasPlace, .instanceMethod yX0_hasPlace, .selects RX0 yX0_hasPlace yX0_hasPlace, .initialized RX0, .code yX0_hasPlace cX0_hasPlace 2 (some .boolean), .fieldLink RX0 15 "MajorityIndex$Row" "length" "I"] ++ wsX40 ++ wsX00 ++ (vx_at0 RX4 109 "java/util/NoSuchElementException" ["java/lang/RuntimeException", "java/lang/Exception"]).filter goodWord)
def wsL_vote_r1 : List Cond := [Cond.classLink RL 13 "java/util/NoSuchElementException", Cond.methodLink RL 15 yX4_vote, Cond.instanceMethod yX4_vote, Cond.selects RX4 yX4_vote yX4_vote, Cond.initialized RX4, Cond.code yX4_vote cX4_vote 7 (some .int), Cond.classLink RX4 107 "java/util/NoSuchElementException", Cond.initialized "java/util/NoSuchElementException", Cond.fieldLink RX4 12 "MajorityIndex" "row" "LMajorityIndex$Row;", Cond.fieldLink RX4 126 "MajorityIndex$Tree" "size" "[I", Cond.fieldLink RX4 35 "MajorityIndex" "votes" "LMajorityIndex$Votes;", Cond.fieldLink RX4 133 "MajorityIndex$Votes" "value" "[I", Cond.fieldLink RX4 136 "MajorityIndex$Votes" "number" "[I", Cond.methodLink RX4 79 yX0_hasRange, Cond.instanceMethod yX0_hasRange, Cond.selects RX0 yX0_hasRange yX0_hasRange, Cond.initialized RX0, Cond.code yX0_hasRange cX0_hasRange 3 (some .boolean), Cond.fieldLink RX0 15 "MajorityIndex$Row" "length" "I", Cond.methodLink RX4 71 yX4_laidTree, Cond.instanceMethod yX4_laidTree, Cond.selects RX4 yX4_laidTree yX4_laidTree, Cond.code yX4_laidTree cX4_laidTree 1 (some (.object "MajorityIndex$Tree")), Cond.fieldLink RX4 53 "MajorityIndex" "treeIsOld" "Z"]
def wsL_vote_r2 : List Cond := [Cond.fieldLink RX4 21 "MajorityIndex" "tree" "LMajorityIndex$Tree;", Cond.fieldLink RX4 49 "MajorityIndex" "slotsNow" "I", Cond.fieldLink RX4 204 "MajorityIndex$Tree" "slotsHere" "I", Cond.fieldLink RX4 57 "MajorityIndex$Row" "length" "I", Cond.methodLink RX4 259 yX2_layRanges, Cond.instanceMethod yX2_layRanges, Cond.selects RX2 yX2_layRanges yX2_layRanges, Cond.initialized RX2, Cond.code yX2_layRanges cX2_layRanges 2 none, Cond.fieldLink RX2 40 "MajorityIndex$Tree" "row" "LMajorityIndex$Row;", Cond.fieldLink RX2 44 "MajorityIndex$Row" "length" "I", Cond.fieldLink RX2 50 "MajorityIndex$Tree" "nodes" "I", Cond.fieldLink RX2 18 "MajorityIndex$Tree" "from" "[I", Cond.fieldLink RX2 22 "MajorityIndex$Tree" "to" "[I", Cond.methodLink RX2 53 yX2_layBelow, Cond.instanceMethod yX2_layBelow, Cond.selects RX2 yX2_layBelow yX2_layBelow, Cond.code yX2_layBelow cX2_layBelow 4 none, Cond.methodLink RX2 57 yX2_rightBelow, Cond.instanceMethod yX2_rightBelow, Cond.selects RX2 yX2_rightBelow yX2_rightBelow, Cond.code yX2_rightBelow cX2_rightBelow 3 (some .int), Cond.methodLink RX4 87 yX2_renew, Cond.instanceMethod yX2_renew]
def wsL_vote_r3 : List Cond := [Cond.selects RX2 yX2_renew yX2_renew, Cond.code yX2_renew cX2_renew 5 (some .int), Cond.methodLink RX2 61 yX2_putTogether, Cond.instanceMethod yX2_putTogether, Cond.selects RX2 yX2_putTogether yX2_putTogether, Cond.code yX2_putTogether cX2_putTogether 2 none, Cond.fieldLink RX2 12 "MajorityIndex$Tree" "joined" "LMajorityIndex$Votes;", Cond.fieldLink RX2 74 "MajorityIndex$Row" "cell" "[I", Cond.fieldLink RX2 85 "MajorityIndex$Tree" "slotsHere" "I", Cond.methodLink RX2 71 yX3_clear, Cond.instanceMethod yX3_clear, Cond.selects RX3 yX3_clear yX3_clear, Cond.initialized RX3, Cond.code yX3_clear cX3_clear 1 none, Cond.fieldLink RX3 18 "MajorityIndex$Votes" "size" "I", Cond.fieldLink RX3 22 "MajorityIndex$Votes" "lost" "I", Cond.fieldLink RX3 25 "MajorityIndex$Votes" "lessBy" "I", Cond.methodLink RX2 77 yX3_add, Cond.instanceMethod yX3_add, Cond.selects RX3 yX3_add yX3_add, Cond.code yX3_add cX3_add 4 none, Cond.fieldLink RX3 9 "MajorityIndex$Votes" "value" "[I", Cond.fieldLink RX3 15 "MajorityIndex$Votes" "number" "[I", Cond.methodLink RX2 81 yX2_joinNode]
def wsL_vote_r4 : List Cond := [Cond.instanceMethod yX2_joinNode, Cond.selects RX2 yX2_joinNode yX2_joinNode, Cond.code yX2_joinNode cX2_joinNode 5 none, Cond.fieldLink RX2 25 "MajorityIndex$Tree" "size" "[I", Cond.fieldLink RX2 34 "MajorityIndex$Tree" "value" "[I", Cond.fieldLink RX2 37 "MajorityIndex$Tree" "number" "[I", Cond.fieldLink RX2 91 "MajorityIndex$Votes" "lost" "I", Cond.fieldLink RX2 28 "MajorityIndex$Tree" "lossOf" "[I", Cond.methodLink RX2 88 yX3_cancel, Cond.instanceMethod yX3_cancel, Cond.selects RX3 yX3_cancel yX3_cancel, Cond.code yX3_cancel cX3_cancel 4 none, Cond.methodLink RX3 32 yX3_order, Cond.instanceMethod yX3_order, Cond.selects RX3 yX3_order yX3_order, Cond.code yX3_order cX3_order 3 none, Cond.methodLink RX3 35 yX3_isAhead, Cond.instanceMethod yX3_isAhead, Cond.selects RX3 yX3_isAhead yX3_isAhead, Cond.code yX3_isAhead cX3_isAhead 3 (some .boolean), Cond.methodLink RX3 39 yX3_exchange, Cond.instanceMethod yX3_exchange, Cond.selects RX3 yX3_exchange yX3_exchange, Cond.code yX3_exchange cX3_exchange 5 none]
def wsL_vote_r5 : List Cond := [Cond.methodLink RX2 64 yX2_isJoined, Cond.instanceMethod yX2_isJoined, Cond.selects RX2 yX2_isJoined yX2_isJoined, Cond.code yX2_isJoined cX2_isJoined 4 (some .boolean), Cond.fieldLink RX2 94 "MajorityIndex$Votes" "size" "I", Cond.fieldLink RX2 96 "MajorityIndex$Votes" "value" "[I", Cond.fieldLink RX2 97 "MajorityIndex$Votes" "number" "[I", Cond.methodLink RX2 68 yX2_keepJoined, Cond.instanceMethod yX2_keepJoined, Cond.selects RX2 yX2_keepJoined yX2_keepJoined, Cond.code yX2_keepJoined cX2_keepJoined 4 none, Cond.methodLink RX2 98 Lib.Math.min.name, Cond.static Lib.Math.min.name, Cond.initialized "java/lang/Math", Cond.code Lib.Math.min.name Lib.Math.min.code 2 (some .int), Cond.fieldLink RX2 31 "MajorityIndex$Tree" "lessBy" "[I", Cond.fieldLink RX2 104 "MajorityIndex$Votes" "lessBy" "I", Cond.methodLink RX4 123 yX2_find, Cond.instanceMethod yX2_find, Cond.selects RX2 yX2_find yX2_find, Cond.code yX2_find cX2_find 4 (some .int), Cond.methodLink RX4 129 yX2_copyTo, Cond.instanceMethod yX2_copyTo, Cond.selects RX2 yX2_copyTo yX2_copyTo]
def wsL_vote_r6 : List Cond := [Cond.code yX2_copyTo cX2_copyTo 3 none]
def wsL_vote : List Cond := .codeWith yL_vote cL_vote 7 (some .int) [(0, 14, 17, 13)] :: ((wsL_vote_r1 ++ (wsL_vote_r2 ++ (wsL_vote_r3 ++ (wsL_vote_r4 ++ (wsL_vote_r5 ++ wsL_vote_r6))))) ++ wsX40 ++ wsX20 ++ wsX30 ++ wsX00 ++ (vx_at0 RX4 109 "java/util/NoSuchElementException" ["java/lang/RuntimeException", "java/lang/Exception"]).filter goodWord)
def wsL_candidate_r1 : List Cond := [Cond.classLink RL 13 "java/util/NoSuchElementException", Cond.methodLink RL 19 yX4_candidate, Cond.instanceMethod yX4_candidate, Cond.selects RX4 yX4_candidate yX4_candidate, Cond.initialized RX4, Cond.code yX4_candidate cX4_candidate 5 (some .int), Cond.classLink RX4 107 "java/util/NoSuchElementException", Cond.initialized "java/util/NoSuchElementException", Cond.fieldLink RX4 12 "MajorityIndex" "row" "LMajorityIndex$Row;", Cond.fieldLink RX4 35 "MajorityIndex" "votes" "LMajorityIndex$Votes;", Cond.fieldLink RX4 174 "MajorityIndex$Votes" "size" "I", Cond.fieldLink RX4 133 "MajorityIndex$Votes" "value" "[I", Cond.fieldLink RX4 136 "MajorityIndex$Votes" "number" "[I", Cond.methodLink RX4 79 yX0_hasRange, Cond.instanceMethod yX0_hasRange, Cond.selects RX0 yX0_hasRange yX0_hasRange, Cond.initialized RX0, Cond.code yX0_hasRange cX0_hasRange 3 (some .boolean), Cond.fieldLink RX0 15 "MajorityIndex$Row" "length" "I", Cond.methodLink RX4 71 yX4_laidTree, Cond.instanceMethod yX4_laidTree, Cond.selects RX4 yX4_laidTree yX4_laidTree, Cond.code yX4_laidTree cX4_laidTree 1 (some (.object "MajorityIndex$Tree")), Cond.fieldLink RX4 53 "MajorityIndex" "treeIsOld" "Z"]
def wsL_candidate_r2 : List Cond := [Cond.fieldLink RX4 21 "MajorityIndex" "tree" "LMajorityIndex$Tree;", Cond.fieldLink RX4 49 "MajorityIndex" "slotsNow" "I", Cond.fieldLink RX4 204 "MajorityIndex$Tree" "slotsHere" "I", Cond.fieldLink RX4 57 "MajorityIndex$Row" "length" "I", Cond.methodLink RX4 259 yX2_layRanges, Cond.instanceMethod yX2_layRanges, Cond.selects RX2 yX2_layRanges yX2_layRanges, Cond.initialized RX2, Cond.code yX2_layRanges cX2_layRanges 2 none, Cond.fieldLink RX2 40 "MajorityIndex$Tree" "row" "LMajorityIndex$Row;", Cond.fieldLink RX2 44 "MajorityIndex$Row" "length" "I", Cond.fieldLink RX2 50 "MajorityIndex$Tree" "nodes" "I", Cond.fieldLink RX2 18 "MajorityIndex$Tree" "from" "[I", Cond.fieldLink RX2 22 "MajorityIndex$Tree" "to" "[I", Cond.methodLink RX2 53 yX2_layBelow, Cond.instanceMethod yX2_layBelow, Cond.selects RX2 yX2_layBelow yX2_layBelow, Cond.code yX2_layBelow cX2_layBelow 4 none, Cond.methodLink RX2 57 yX2_rightBelow, Cond.instanceMethod yX2_rightBelow, Cond.selects RX2 yX2_rightBelow yX2_rightBelow, Cond.code yX2_rightBelow cX2_rightBelow 3 (some .int), Cond.methodLink RX4 87 yX2_renew, Cond.instanceMethod yX2_renew]
def wsL_candidate_r3 : List Cond := [Cond.selects RX2 yX2_renew yX2_renew, Cond.code yX2_renew cX2_renew 5 (some .int), Cond.methodLink RX2 61 yX2_putTogether, Cond.instanceMethod yX2_putTogether, Cond.selects RX2 yX2_putTogether yX2_putTogether, Cond.code yX2_putTogether cX2_putTogether 2 none, Cond.fieldLink RX2 12 "MajorityIndex$Tree" "joined" "LMajorityIndex$Votes;", Cond.fieldLink RX2 74 "MajorityIndex$Row" "cell" "[I", Cond.fieldLink RX2 85 "MajorityIndex$Tree" "slotsHere" "I", Cond.methodLink RX2 71 yX3_clear, Cond.instanceMethod yX3_clear, Cond.selects RX3 yX3_clear yX3_clear, Cond.initialized RX3, Cond.code yX3_clear cX3_clear 1 none, Cond.fieldLink RX3 18 "MajorityIndex$Votes" "size" "I", Cond.fieldLink RX3 22 "MajorityIndex$Votes" "lost" "I", Cond.fieldLink RX3 25 "MajorityIndex$Votes" "lessBy" "I", Cond.methodLink RX2 77 yX3_add, Cond.instanceMethod yX3_add, Cond.selects RX3 yX3_add yX3_add, Cond.code yX3_add cX3_add 4 none, Cond.fieldLink RX3 9 "MajorityIndex$Votes" "value" "[I", Cond.fieldLink RX3 15 "MajorityIndex$Votes" "number" "[I", Cond.methodLink RX2 81 yX2_joinNode]
def wsL_candidate_r4 : List Cond := [Cond.instanceMethod yX2_joinNode, Cond.selects RX2 yX2_joinNode yX2_joinNode, Cond.code yX2_joinNode cX2_joinNode 5 none, Cond.fieldLink RX2 25 "MajorityIndex$Tree" "size" "[I", Cond.fieldLink RX2 34 "MajorityIndex$Tree" "value" "[I", Cond.fieldLink RX2 37 "MajorityIndex$Tree" "number" "[I", Cond.fieldLink RX2 91 "MajorityIndex$Votes" "lost" "I", Cond.fieldLink RX2 28 "MajorityIndex$Tree" "lossOf" "[I", Cond.methodLink RX2 88 yX3_cancel, Cond.instanceMethod yX3_cancel, Cond.selects RX3 yX3_cancel yX3_cancel, Cond.code yX3_cancel cX3_cancel 4 none, Cond.methodLink RX3 32 yX3_order, Cond.instanceMethod yX3_order, Cond.selects RX3 yX3_order yX3_order, Cond.code yX3_order cX3_order 3 none, Cond.methodLink RX3 35 yX3_isAhead, Cond.instanceMethod yX3_isAhead, Cond.selects RX3 yX3_isAhead yX3_isAhead, Cond.code yX3_isAhead cX3_isAhead 3 (some .boolean), Cond.methodLink RX3 39 yX3_exchange, Cond.instanceMethod yX3_exchange, Cond.selects RX3 yX3_exchange yX3_exchange, Cond.code yX3_exchange cX3_exchange 5 none]
def wsL_candidate_r5 : List Cond := [Cond.methodLink RX2 64 yX2_isJoined, Cond.instanceMethod yX2_isJoined, Cond.selects RX2 yX2_isJoined yX2_isJoined, Cond.code yX2_isJoined cX2_isJoined 4 (some .boolean), Cond.fieldLink RX2 94 "MajorityIndex$Votes" "size" "I", Cond.fieldLink RX2 96 "MajorityIndex$Votes" "value" "[I", Cond.fieldLink RX2 97 "MajorityIndex$Votes" "number" "[I", Cond.methodLink RX2 68 yX2_keepJoined, Cond.instanceMethod yX2_keepJoined, Cond.selects RX2 yX2_keepJoined yX2_keepJoined, Cond.code yX2_keepJoined cX2_keepJoined 4 none, Cond.methodLink RX2 98 Lib.Math.min.name, Cond.static Lib.Math.min.name, Cond.initialized "java/lang/Math", Cond.code Lib.Math.min.name Lib.Math.min.code 2 (some .int), Cond.fieldLink RX2 31 "MajorityIndex$Tree" "lessBy" "[I", Cond.fieldLink RX2 104 "MajorityIndex$Votes" "lessBy" "I", Cond.methodLink RX4 170 yX2_gather, Cond.instanceMethod yX2_gather, Cond.selects RX2 yX2_gather yX2_gather, Cond.code yX2_gather cX2_gather 6 none, Cond.methodLink RX2 106 yX2_isPart, Cond.instanceMethod yX2_isPart, Cond.selects RX2 yX2_isPart yX2_isPart]
def wsL_candidate_r6 : List Cond := [Cond.code yX2_isPart cX2_isPart 4 (some .boolean), Cond.methodLink RX4 113 yX0_oftenIn, Cond.instanceMethod yX0_oftenIn, Cond.selects RX0 yX0_oftenIn yX0_oftenIn, Cond.code yX0_oftenIn cX0_oftenIn 6 (some .int), Cond.fieldLink RX0 9 "MajorityIndex$Row" "cell" "[I"]
def wsL_candidate : List Cond := .codeWith yL_candidate cL_candidate 7 (some .int) [(0, 14, 17, 13)] :: ((wsL_candidate_r1 ++ (wsL_candidate_r2 ++ (wsL_candidate_r3 ++ (wsL_candidate_r4 ++ (wsL_candidate_r5 ++ wsL_candidate_r6))))) ++ wsX40 ++ wsX30 ++ wsX00 ++ wsX20 ++ (vx_at0 RX4 109 "java/util/NoSuchElementException" ["java/lang/RuntimeException", "java/lang/Exception"]).filter goodWord)
def wsL_heavyAt_r1 : List Cond := [Cond.classLink RL 13 "java/util/NoSuchElementException", Cond.methodLink RL 22 yX4_heavyAt, Cond.instanceMethod yX4_heavyAt, Cond.selects RX4 yX4_heavyAt yX4_heavyAt, Cond.initialized RX4, Cond.code yX4_heavyAt cX4_heavyAt 7 (some .int), Cond.classLink RX4 107 "java/util/NoSuchElementException", Cond.initialized "java/util/NoSuchElementException", Cond.fieldLink RX4 12 "MajorityIndex" "row" "LMajorityIndex$Row;", Cond.fieldLink RX4 35 "MajorityIndex" "votes" "LMajorityIndex$Votes;", Cond.fieldLink RX4 174 "MajorityIndex$Votes" "size" "I", Cond.fieldLink RX4 133 "MajorityIndex$Votes" "value" "[I", Cond.fieldLink RX4 136 "MajorityIndex$Votes" "number" "[I", Cond.methodLink RX4 79 yX0_hasRange, Cond.instanceMethod yX0_hasRange, Cond.selects RX0 yX0_hasRange yX0_hasRange, Cond.initialized RX0, Cond.code yX0_hasRange cX0_hasRange 3 (some .boolean), Cond.fieldLink RX0 15 "MajorityIndex$Row" "length" "I", Cond.methodLink RX4 186 yX4_isShare, Cond.static yX4_isShare, Cond.code yX4_isShare cX4_isShare 2 (some .boolean), Cond.methodLink RX4 189 yX4_isEnough, Cond.instanceMethod yX4_isEnough]
def wsL_heavyAt_r2 : List Cond := [Cond.selects RX4 yX4_isEnough yX4_isEnough, Cond.code yX4_isEnough cX4_isEnough 3 (some .boolean), Cond.fieldLink RX4 49 "MajorityIndex" "slotsNow" "I", Cond.methodLink RX4 71 yX4_laidTree, Cond.instanceMethod yX4_laidTree, Cond.selects RX4 yX4_laidTree yX4_laidTree, Cond.code yX4_laidTree cX4_laidTree 1 (some (.object "MajorityIndex$Tree")), Cond.fieldLink RX4 53 "MajorityIndex" "treeIsOld" "Z", Cond.fieldLink RX4 21 "MajorityIndex" "tree" "LMajorityIndex$Tree;", Cond.fieldLink RX4 204 "MajorityIndex$Tree" "slotsHere" "I", Cond.fieldLink RX4 57 "MajorityIndex$Row" "length" "I", Cond.methodLink RX4 259 yX2_layRanges, Cond.instanceMethod yX2_layRanges, Cond.selects RX2 yX2_layRanges yX2_layRanges, Cond.initialized RX2, Cond.code yX2_layRanges cX2_layRanges 2 none, Cond.fieldLink RX2 40 "MajorityIndex$Tree" "row" "LMajorityIndex$Row;", Cond.fieldLink RX2 44 "MajorityIndex$Row" "length" "I", Cond.fieldLink RX2 50 "MajorityIndex$Tree" "nodes" "I", Cond.fieldLink RX2 18 "MajorityIndex$Tree" "from" "[I", Cond.fieldLink RX2 22 "MajorityIndex$Tree" "to" "[I", Cond.methodLink RX2 53 yX2_layBelow, Cond.instanceMethod yX2_layBelow, Cond.selects RX2 yX2_layBelow yX2_layBelow]
def wsL_heavyAt_r3 : List Cond := [Cond.code yX2_layBelow cX2_layBelow 4 none, Cond.methodLink RX2 57 yX2_rightBelow, Cond.instanceMethod yX2_rightBelow, Cond.selects RX2 yX2_rightBelow yX2_rightBelow, Cond.code yX2_rightBelow cX2_rightBelow 3 (some .int), Cond.methodLink RX4 87 yX2_renew, Cond.instanceMethod yX2_renew, Cond.selects RX2 yX2_renew yX2_renew, Cond.code yX2_renew cX2_renew 5 (some .int), Cond.methodLink RX2 61 yX2_putTogether, Cond.instanceMethod yX2_putTogether, Cond.selects RX2 yX2_putTogether yX2_putTogether, Cond.code yX2_putTogether cX2_putTogether 2 none, Cond.fieldLink RX2 12 "MajorityIndex$Tree" "joined" "LMajorityIndex$Votes;", Cond.fieldLink RX2 74 "MajorityIndex$Row" "cell" "[I", Cond.fieldLink RX2 85 "MajorityIndex$Tree" "slotsHere" "I", Cond.methodLink RX2 71 yX3_clear, Cond.instanceMethod yX3_clear, Cond.selects RX3 yX3_clear yX3_clear, Cond.initialized RX3, Cond.code yX3_clear cX3_clear 1 none, Cond.fieldLink RX3 18 "MajorityIndex$Votes" "size" "I", Cond.fieldLink RX3 22 "MajorityIndex$Votes" "lost" "I", Cond.fieldLink RX3 25 "MajorityIndex$Votes" "lessBy" "I"]
def wsL_heavyAt_r4 : List Cond := [Cond.methodLink RX2 77 yX3_add, Cond.instanceMethod yX3_add, Cond.selects RX3 yX3_add yX3_add, Cond.code yX3_add cX3_add 4 none, Cond.fieldLink RX3 9 "MajorityIndex$Votes" "value" "[I", Cond.fieldLink RX3 15 "MajorityIndex$Votes" "number" "[I", Cond.methodLink RX2 81 yX2_joinNode, Cond.instanceMethod yX2_joinNode, Cond.selects RX2 yX2_joinNode yX2_joinNode, Cond.code yX2_joinNode cX2_joinNode 5 none, Cond.fieldLink RX2 25 "MajorityIndex$Tree" "size" "[I", Cond.fieldLink RX2 34 "MajorityIndex$Tree" "value" "[I", Cond.fieldLink RX2 37 "MajorityIndex$Tree" "number" "[I", Cond.fieldLink RX2 91 "MajorityIndex$Votes" "lost" "I", Cond.fieldLink RX2 28 "MajorityIndex$Tree" "lossOf" "[I", Cond.methodLink RX2 88 yX3_cancel, Cond.instanceMethod yX3_cancel, Cond.selects RX3 yX3_cancel yX3_cancel, Cond.code yX3_cancel cX3_cancel 4 none, Cond.methodLink RX3 32 yX3_order, Cond.instanceMethod yX3_order, Cond.selects RX3 yX3_order yX3_order, Cond.code yX3_order cX3_order 3 none, Cond.methodLink RX3 35 yX3_isAhead]
def wsL_heavyAt_r5 : List Cond := [Cond.instanceMethod yX3_isAhead, Cond.selects RX3 yX3_isAhead yX3_isAhead, Cond.code yX3_isAhead cX3_isAhead 3 (some .boolean), Cond.methodLink RX3 39 yX3_exchange, Cond.instanceMethod yX3_exchange, Cond.selects RX3 yX3_exchange yX3_exchange, Cond.code yX3_exchange cX3_exchange 5 none, Cond.methodLink RX2 64 yX2_isJoined, Cond.instanceMethod yX2_isJoined, Cond.selects RX2 yX2_isJoined yX2_isJoined, Cond.code yX2_isJoined cX2_isJoined 4 (some .boolean), Cond.fieldLink RX2 94 "MajorityIndex$Votes" "size" "I", Cond.fieldLink RX2 96 "MajorityIndex$Votes" "value" "[I", Cond.fieldLink RX2 97 "MajorityIndex$Votes" "number" "[I", Cond.methodLink RX2 68 yX2_keepJoined, Cond.instanceMethod yX2_keepJoined, Cond.selects RX2 yX2_keepJoined yX2_keepJoined, Cond.code yX2_keepJoined cX2_keepJoined 4 none, Cond.methodLink RX2 98 Lib.Math.min.name, Cond.static Lib.Math.min.name, Cond.initialized "java/lang/Math", Cond.code Lib.Math.min.name Lib.Math.min.code 2 (some .int), Cond.fieldLink RX2 31 "MajorityIndex$Tree" "lessBy" "[I", Cond.fieldLink RX2 104 "MajorityIndex$Votes" "lessBy" "I"]
def wsL_heavyAt_r6 : List Cond := [Cond.methodLink RX4 192 yX4_gatherHeavy, Cond.instanceMethod yX4_gatherHeavy, Cond.selects RX4 yX4_gatherHeavy yX4_gatherHeavy, Cond.code yX4_gatherHeavy cX4_gatherHeavy 7 none, Cond.methodLink RX4 170 yX2_gather, Cond.instanceMethod yX2_gather, Cond.selects RX2 yX2_gather yX2_gather, Cond.code yX2_gather cX2_gather 6 none, Cond.methodLink RX2 106 yX2_isPart, Cond.instanceMethod yX2_isPart, Cond.selects RX2 yX2_isPart yX2_isPart, Cond.code yX2_isPart cX2_isPart 4 (some .boolean), Cond.methodLink RX4 113 yX0_oftenIn, Cond.instanceMethod yX0_oftenIn, Cond.selects RX0 yX0_oftenIn yX0_oftenIn, Cond.code yX0_oftenIn cX0_oftenIn 6 (some .int), Cond.fieldLink RX0 9 "MajorityIndex$Row" "cell" "[I", Cond.methodLink RX4 262 yX3_keepHeavy, Cond.instanceMethod yX3_keepHeavy, Cond.selects RX3 yX3_keepHeavy yX3_keepHeavy, Cond.code yX3_keepHeavy cX3_keepHeavy 6 none, Cond.static yX4_isHeavy, Cond.code yX4_isHeavy cX4_isHeavy 4 (some .boolean)]
def wsL_heavyAt : List Cond := .codeWith yL_heavyAt cL_heavyAt 9 (some .int) [(0, 18, 21, 13)] :: ((wsL_heavyAt_r1 ++ (wsL_heavyAt_r2 ++ (wsL_heavyAt_r3 ++ (wsL_heavyAt_r4 ++ (wsL_heavyAt_r5 ++ wsL_heavyAt_r6))))) ++ wsX40 ++ wsX30 ++ wsX00 ++ wsX20 ++ (vx_at0 RX4 109 "java/util/NoSuchElementException" ["java/lang/RuntimeException", "java/lang/Exception"]).filter goodWord)
set_option maxRecDepth 20000 in
theorem ggL_at_X4_at : GoodIn wsL_at wsX4_at := goodIn_ca (goodIn_r _ [6, 7, 8, 9, 10, 11, 12, 13, 14, 15, 16, 17, 18, 19, 20, 21, 22, 23, 24, 25, 26, 27] rfl (by decide +kernel)) (goodIn_sub (fun _ h => List.mem_cons_of_mem _ (List.mem_append_right _ h)) (by decide +kernel))
set_option maxRecDepth 20000 in
theorem gL_at_X4_at : GoodIn wsL_at (wsV RL 7 RX4 yX4_at wsX4_at) := goodIn_app (goodIn_r _ [2, 3, 4, 5] rfl (by decide +kernel)) ggL_at_X4_at
def dt_cL_at_0 : List (Nat × Nat × Nat × Nat) := [(0, 44, 0, 0), (1, 3, 0, 0), (2, 42, 0, 0), (3, 27, 0, 0), (4, 182, 2, 7), (7, 133, 0, 0), (8, 80, 0, 0), (9, 167, 2, 6), (12, 78, 0, 0), (13, 4, 0, 0), (14, 172, 0, 0), (15, 3, 0, 0), (16, 172, 0, 0)]
theorem da_cL_at_0 : fw dt_cL_at_0 0 cL_at.data.toList = true := by decide +kernel
theorem dL_at_0 : decode cL_at 0 = .ok (.aload_n 2, 1) := fo_44 (fw_get da_cL_at_0 0 rfl)
theorem dL_at_1 : decode cL_at 1 = .ok (.iconst 0, 1) := fo_3 (fw_get da_cL_at_0 1 rfl)
theorem dL_at_2 : decode cL_at 2 = .ok (.aload_n 0, 1) := fo_42 (fw_get da_cL_at_0 2 rfl)
theorem dL_at_3 : decode cL_at 3 = .ok (.iload_n 1, 1) := fo_27 (fw_get da_cL_at_0 3 rfl)
theorem dL_at_4 : decode cL_at 4 = .ok (.invokevirtual 7, 3) := fo_182 (fw_get da_cL_at_0 4 rfl)
theorem dL_at_7 : decode cL_at 7 = .ok (.i2l, 1) := fo_133 (fw_get da_cL_at_0 5 rfl)
theorem dL_at_8 : decode cL_at 8 = .ok (.lastore, 1) := fo_80 (fw_get da_cL_at_0 6 rfl)
theorem dL_at_9 : decode cL_at 9 = .ok (.goto 6, 3) := fo_167 (fw_get da_cL_at_0 7 rfl) (by decide +kernel)
theorem dL_at_12 : decode cL_at 12 = .ok (.astore_n 3, 1) := fo_78 (fw_get da_cL_at_0 8 rfl)
theorem dL_at_13 : decode cL_at 13 = .ok (.iconst 1, 1) := fo_4 (fw_get da_cL_at_0 9 rfl)
theorem dL_at_14 : decode cL_at 14 = .ok (.ireturn, 1) := fo_172 (fw_get da_cL_at_0 10 rfl)
theorem dL_at_15 : decode cL_at 15 = .ok (.iconst 0, 1) := fo_3 (fw_get da_cL_at_0 11 rfl)
theorem dL_at_16 : decode cL_at 16 = .ok (.ireturn, 1) := fo_172 (fw_get da_cL_at_0 12 rfl)
set_option maxRecDepth 20000 in
theorem ggL_vote_X4_vote : GoodIn wsL_vote wsX4_vote := goodIn_ca (goodIn_r _ [6, 7, 8, 9, 10, 11, 12, 13, 14, 15, 16, 17, 18, 19, 20, 21, 22, 5, 23, 24, 25, 26, 27, 28, 29, 30, 31, 32, 33, 34, 35, 36, 37, 38, 39, 40, 41, 42, 43, 44, 45, 46, 47, 48, 49, 50, 51, 52, 53, 54, 55, 56, 57, 58, 59, 60, 61, 62, 63, 64, 65, 66, 67, 68, 69, 70, 71, 72, 73, 74, 75, 76, 77, 78, 79, 80, 81, 82, 83, 84, 85, 86, 87, 88, 89, 90, 91, 92, 93, 94, 95, 96, 97, 98, 99, 100, 101, 102, 103, 104, 105, 106, 107, 108, 109, 110, 111, 112, 113, 114, 115, 116, 117, 118, 119, 120, 121, 122, 123, 124, 125, 126, 127, 128, 129, 130, 131, 132, 133, 134, 135, 136, 137, 138, 139, 140, 141, 142, 143, 144, 145, 146, 147, 148] rfl (by decide +kernel)) (goodIn_sub (fun _ h => List.mem_cons_of_mem _ (List.mem_append_right _ h)) (by decide +kernel))
set_option maxRecDepth 20000 in
theorem gL_vote_X4_vote : GoodIn wsL_vote (wsV RL 15 RX4 yX4_vote wsX4_vote) := goodIn_app (goodIn_r _ [2, 3, 4, 5] rfl (by decide +kernel)) ggL_vote_X4_vote
def dt_cL_vote_0 : List (Nat × Nat × Nat × Nat) := [(0, 25, 1, 5), (2, 3, 0, 0), (3, 42, 0, 0), (4, 27, 0, 0), (5, 28, 0, 0), (6, 29, 0, 0), (7, 21, 1, 4), (9, 182, 2, 15), (12, 133, 0, 0), (13, 80, 0, 0), (14, 167, 2, 7), (17, 58, 1, 6), (19, 4, 0, 0), (20, 172, 0, 0), (21, 3, 0, 0), (22, 172, 0, 0)]
theorem da_cL_vote_0 : fw dt_cL_vote_0 0 cL_vote.data.toList = true := by decide +kernel
theorem dL_vote_0 : decode cL_vote 0 = .ok (.aload 5, 2) := fo_25 (fw_get da_cL_vote_0 0 rfl)
theorem dL_vote_2 : decode cL_vote 2 = .ok (.iconst 0, 1) := fo_3 (fw_get da_cL_vote_0 1 rfl)
theorem dL_vote_3 : decode cL_vote 3 = .ok (.aload_n 0, 1) := fo_42 (fw_get da_cL_vote_0 2 rfl)
theorem dL_vote_4 : decode cL_vote 4 = .ok (.iload_n 1, 1) := fo_27 (fw_get da_cL_vote_0 3 rfl)
theorem dL_vote_5 : decode cL_vote 5 = .ok (.iload_n 2, 1) := fo_28 (fw_get da_cL_vote_0 4 rfl)
theorem dL_vote_6 : decode cL_vote 6 = .ok (.iload_n 3, 1) := fo_29 (fw_get da_cL_vote_0 5 rfl)
theorem dL_vote_7 : decode cL_vote 7 = .ok (.iload 4, 2) := fo_21 (fw_get da_cL_vote_0 6 rfl)
theorem dL_vote_9 : decode cL_vote 9 = .ok (.invokevirtual 15, 3) := fo_182 (fw_get da_cL_vote_0 7 rfl)
theorem dL_vote_12 : decode cL_vote 12 = .ok (.i2l, 1) := fo_133 (fw_get da_cL_vote_0 8 rfl)
theorem dL_vote_13 : decode cL_vote 13 = .ok (.lastore, 1) := fo_80 (fw_get da_cL_vote_0 9 rfl)
theorem dL_vote_14 : decode cL_vote 14 = .ok (.goto 7, 3) := fo_167 (fw_get da_cL_vote_0 10 rfl) (by decide +kernel)
theorem dL_vote_17 : decode cL_vote 17 = .ok (.astore 6, 2) := fo_58 (fw_get da_cL_vote_0 11 rfl)
theorem dL_vote_19 : decode cL_vote 19 = .ok (.iconst 1, 1) := fo_4 (fw_get da_cL_vote_0 12 rfl)
theorem dL_vote_20 : decode cL_vote 20 = .ok (.ireturn, 1) := fo_172 (fw_get da_cL_vote_0 13 rfl)
theorem dL_vote_21 : decode cL_vote 21 = .ok (.iconst 0, 1) := fo_3 (fw_get da_cL_vote_0 14 rfl)
theorem dL_vote_22 : decode cL_vote 22 = .ok (.ireturn, 1) := fo_172 (fw_get da_cL_vote_0 15 rfl)
set_option maxRecDepth 20000 in
theorem ggL_candidate_X4_candidate : GoodIn wsL_candidate wsX4_candidate := goodIn_ca (goodIn_r _ [6, 7, 8, 9, 10, 11, 12, 13, 14, 15, 16, 17, 18, 19, 20, 21, 22, 5, 23, 24, 25, 26, 27, 28, 29, 30, 31, 32, 33, 34, 35, 36, 37, 38, 39, 40, 41, 42, 43, 44, 45, 46, 47, 48, 49, 50, 51, 52, 53, 54, 55, 56, 57, 58, 59, 60, 61, 62, 63, 64, 65, 66, 67, 68, 69, 70, 71, 72, 73, 74, 75, 76, 77, 78, 79, 80, 81, 82, 83, 84, 85, 86, 87, 88, 89, 90, 91, 92, 93, 94, 95, 96, 97, 98, 99, 100, 101, 102, 103, 104, 105, 106, 107, 108, 109, 110, 111, 112, 113, 114, 115, 116, 117, 118, 119, 120, 121, 122, 123, 124, 125, 126, 127, 128, 129, 130, 131, 132, 133, 134, 135, 136, 137, 138, 139, 140, 141, 142, 143, 144, 145, 146, 147, 148, 149, 150, 151, 152, 153] rfl (by decide +kernel)) (goodIn_sub (fun _ h => List.mem_cons_of_mem _ (List.mem_append_right _ h)) (by decide +kernel))
set_option maxRecDepth 20000 in
theorem gL_candidate_X4_candidate : GoodIn wsL_candidate (wsV RL 19 RX4 yX4_candidate wsX4_candidate) := goodIn_app (goodIn_r _ [2, 3, 4, 5] rfl (by decide +kernel)) ggL_candidate_X4_candidate
def dt_cL_candidate_0 : List (Nat × Nat × Nat × Nat) := [(0, 25, 1, 5), (2, 3, 0, 0), (3, 42, 0, 0), (4, 27, 0, 0), (5, 28, 0, 0), (6, 29, 0, 0), (7, 21, 1, 4), (9, 182, 2, 19), (12, 133, 0, 0), (13, 80, 0, 0), (14, 167, 2, 7), (17, 58, 1, 6), (19, 4, 0, 0), (20, 172, 0, 0), (21, 3, 0, 0), (22, 172, 0, 0)]
theorem da_cL_candidate_0 : fw dt_cL_candidate_0 0 cL_candidate.data.toList = true := by decide +kernel
theorem dL_candidate_0 : decode cL_candidate 0 = .ok (.aload 5, 2) := fo_25 (fw_get da_cL_candidate_0 0 rfl)
theorem dL_candidate_2 : decode cL_candidate 2 = .ok (.iconst 0, 1) := fo_3 (fw_get da_cL_candidate_0 1 rfl)
theorem dL_candidate_3 : decode cL_candidate 3 = .ok (.aload_n 0, 1) := fo_42 (fw_get da_cL_candidate_0 2 rfl)
theorem dL_candidate_4 : decode cL_candidate 4 = .ok (.iload_n 1, 1) := fo_27 (fw_get da_cL_candidate_0 3 rfl)
theorem dL_candidate_5 : decode cL_candidate 5 = .ok (.iload_n 2, 1) := fo_28 (fw_get da_cL_candidate_0 4 rfl)
theorem dL_candidate_6 : decode cL_candidate 6 = .ok (.iload_n 3, 1) := fo_29 (fw_get da_cL_candidate_0 5 rfl)
theorem dL_candidate_7 : decode cL_candidate 7 = .ok (.iload 4, 2) := fo_21 (fw_get da_cL_candidate_0 6 rfl)
theorem dL_candidate_9 : decode cL_candidate 9 = .ok (.invokevirtual 19, 3) := fo_182 (fw_get da_cL_candidate_0 7 rfl)
theorem dL_candidate_12 : decode cL_candidate 12 = .ok (.i2l, 1) := fo_133 (fw_get da_cL_candidate_0 8 rfl)
theorem dL_candidate_13 : decode cL_candidate 13 = .ok (.lastore, 1) := fo_80 (fw_get da_cL_candidate_0 9 rfl)
theorem dL_candidate_14 : decode cL_candidate 14 = .ok (.goto 7, 3) := fo_167 (fw_get da_cL_candidate_0 10 rfl) (by decide +kernel)
theorem dL_candidate_17 : decode cL_candidate 17 = .ok (.astore 6, 2) := fo_58 (fw_get da_cL_candidate_0 11 rfl)
theorem dL_candidate_19 : decode cL_candidate 19 = .ok (.iconst 1, 1) := fo_4 (fw_get da_cL_candidate_0 12 rfl)
theorem dL_candidate_20 : decode cL_candidate 20 = .ok (.ireturn, 1) := fo_172 (fw_get da_cL_candidate_0 13 rfl)
theorem dL_candidate_21 : decode cL_candidate 21 = .ok (.iconst 0, 1) := fo_3 (fw_get da_cL_candidate_0 14 rfl)
theorem dL_candidate_22 : decode cL_candidate 22 = .ok (.ireturn, 1) := fo_172 (fw_get da_cL_candidate_0 15 rfl)
set_option maxRecDepth 20000 in
theorem ggL_heavyAt_X4_heavyAt : GoodIn wsL_heavyAt wsX4_heavyAt := goodIn_ca (goodIn_r _ [6, 7, 8, 9, 10, 11, 12, 13, 14, 15, 16, 17, 18, 19, 20, 21, 5, 22, 23, 24, 25, 26, 27, 28, 29, 30, 31, 32, 33, 34, 35, 36, 37, 38, 39, 40, 41, 42, 43, 44, 45, 46, 47, 48, 49, 50, 51, 52, 53, 54, 55, 56, 57, 58, 59, 60, 61, 62, 63, 64, 65, 66, 67, 68, 69, 70, 71, 72, 73, 74, 75, 76, 77, 78, 79, 80, 81, 82, 83, 84, 85, 86, 87, 88, 89, 90, 91, 92, 93, 94, 95, 96, 97, 98, 99, 100, 101, 102, 103, 104, 105, 106, 107, 108, 109, 110, 111, 112, 113, 114, 115, 116, 117, 118, 119, 120, 121, 122, 123, 124, 125, 126, 127, 128, 129, 130, 131, 132, 133, 134, 135, 136, 137, 138, 139, 140, 141, 142, 143, 144, 145, 146, 147, 148, 149, 150, 151, 152, 153, 154, 155, 156, 157, 158, 159, 160, 161, 162, 163, 164, 165, 166, 167, 168, 169, 170] rfl (by decide +kernel)) (goodIn_sub (fun _ h => List.mem_cons_of_mem _ (List.mem_append_right _ h)) (by decide +kernel))
set_option maxRecDepth 20000 in
theorem gL_heavyAt_X4_heavyAt : GoodIn wsL_heavyAt (wsV RL 22 RX4 yX4_heavyAt wsX4_heavyAt) := goodIn_app (goodIn_r _ [2, 3, 4, 5] rfl (by decide +kernel)) ggL_heavyAt_X4_heavyAt
def dt_cL_heavyAt_0 : List (Nat × Nat × Nat × Nat) := [(0, 25, 1, 7), (2, 3, 0, 0), (3, 42, 0, 0), (4, 27, 0, 0), (5, 28, 0, 0), (6, 29, 0, 0), (7, 21, 1, 4), (9, 21, 1, 5), (11, 21, 1, 6), (13, 182, 2, 22), (16, 133, 0, 0), (17, 80, 0, 0), (18, 167, 2, 7), (21, 58, 1, 8), (23, 4, 0, 0), (24, 172, 0, 0), (25, 3, 0, 0), (26, 172, 0, 0)]
theorem da_cL_heavyAt_0 : fw dt_cL_heavyAt_0 0 cL_heavyAt.data.toList = true := by decide +kernel
theorem dL_heavyAt_0 : decode cL_heavyAt 0 = .ok (.aload 7, 2) := fo_25 (fw_get da_cL_heavyAt_0 0 rfl)
theorem dL_heavyAt_2 : decode cL_heavyAt 2 = .ok (.iconst 0, 1) := fo_3 (fw_get da_cL_heavyAt_0 1 rfl)
theorem dL_heavyAt_3 : decode cL_heavyAt 3 = .ok (.aload_n 0, 1) := fo_42 (fw_get da_cL_heavyAt_0 2 rfl)
theorem dL_heavyAt_4 : decode cL_heavyAt 4 = .ok (.iload_n 1, 1) := fo_27 (fw_get da_cL_heavyAt_0 3 rfl)
theorem dL_heavyAt_5 : decode cL_heavyAt 5 = .ok (.iload_n 2, 1) := fo_28 (fw_get da_cL_heavyAt_0 4 rfl)
theorem dL_heavyAt_6 : decode cL_heavyAt 6 = .ok (.iload_n 3, 1) := fo_29 (fw_get da_cL_heavyAt_0 5 rfl)
theorem dL_heavyAt_7 : decode cL_heavyAt 7 = .ok (.iload 4, 2) := fo_21 (fw_get da_cL_heavyAt_0 6 rfl)
theorem dL_heavyAt_9 : decode cL_heavyAt 9 = .ok (.iload 5, 2) := fo_21 (fw_get da_cL_heavyAt_0 7 rfl)
theorem dL_heavyAt_11 : decode cL_heavyAt 11 = .ok (.iload 6, 2) := fo_21 (fw_get da_cL_heavyAt_0 8 rfl)
theorem dL_heavyAt_13 : decode cL_heavyAt 13 = .ok (.invokevirtual 22, 3) := fo_182 (fw_get da_cL_heavyAt_0 9 rfl)
theorem dL_heavyAt_16 : decode cL_heavyAt 16 = .ok (.i2l, 1) := fo_133 (fw_get da_cL_heavyAt_0 10 rfl)
theorem dL_heavyAt_17 : decode cL_heavyAt 17 = .ok (.lastore, 1) := fo_80 (fw_get da_cL_heavyAt_0 11 rfl)
theorem dL_heavyAt_18 : decode cL_heavyAt 18 = .ok (.goto 7, 3) := fo_167 (fw_get da_cL_heavyAt_0 12 rfl) (by decide +kernel)
theorem dL_heavyAt_21 : decode cL_heavyAt 21 = .ok (.astore 8, 2) := fo_58 (fw_get da_cL_heavyAt_0 13 rfl)
theorem dL_heavyAt_23 : decode cL_heavyAt 23 = .ok (.iconst 1, 1) := fo_4 (fw_get da_cL_heavyAt_0 14 rfl)
theorem dL_heavyAt_24 : decode cL_heavyAt 24 = .ok (.ireturn, 1) := fo_172 (fw_get da_cL_heavyAt_0 15 rfl)
theorem dL_heavyAt_25 : decode cL_heavyAt 25 = .ok (.iconst 0, 1) := fo_3 (fw_get da_cL_heavyAt_0 16 rfl)
theorem dL_heavyAt_26 : decode cL_heavyAt 26 = .ok (.ireturn, 1) := fo_172 (fw_get da_cL_heavyAt_0 17 rfl)


set_option maxHeartbeats 4000000 in
set_option maxRecDepth 100000 in
theorem c_L_at (l : Launch) (hl0 : l.stackTraces = false) (dC : Nat → ClassId) (dI : Nat → Nat → Nat) (m_ : Nat) (q_row : Nat) (q_t : Nat) (t_ : Nat) (h0 : Nat) (k0 : Nat) (w_ : Nat) (z_ : Nat) (slots : Int32) (old : Int32) (q_cell : Nat) (cyI : ClassId) (len : Int32) (f : Nat → Int32) (p0 : Int32) (cyL : ClassId) (ho : Nat) (ol : Nat → Int64) (sz : Nat) (a0 : 0 ≤ len.toInt) (a1 : len.toInt ≤ 160) : Met l yL_at wsL_at ({ frames := 9, cells := 1, slots := 6, locals := 405 }) (va_Pc [.ref m_, .int p0, .ref ho] (fun U => U.heap.size = sz ∧ va_P (dC, dI) vwCl [kx_4 m_ q_row q_t t_ h0 k0 w_ z_ slots old, kx_0 q_row q_cell len, kx_a q_cell cyI 160 f, (ho, .inl (cyL, 1, .inr (.inl ol)))] U.heap ∧ va_K (dC, dI) vwCl [(cyI, .int), (cyL, .long)] U ∧ va_D (fun _ => True) [kx_4 m_ q_row q_t t_ h0 k0 w_ z_ slots old, kx_0 q_row q_cell len, kx_a q_cell cyI 160 f, (ho, .inl (cyL, 1, .inr (.inl ol)))] ∧ ki_ThA (va_A [kx_4 m_ q_row q_t t_ h0 k0 w_ z_ slots old, kx_0 q_row q_cell len, kx_a q_cell cyI 160 f, (ho, .inl (cyL, 1, .inr (.inl ol)))] sz) U)) (va_Qi (fun (r : Int32) (u : (Nat → Int64) × Int32) => ((r = 0 ∧ (0 ≤ p0.toInt ∧ p0.toInt < len.toInt ∧ u.2 = f p0.toNatClampNeg) ∧ u.1 = vp_updL ol (0 : Int32).toNatClampNeg u.2.toInt64) ∨ (r = 1 ∧ ((p0.toInt < 0 ∨ len.toInt ≤ p0.toInt))))) (fun (u : (Nat → Int64) × Int32) (t : State) => va_P (dC, dI) vwCl [kx_4 m_ q_row q_t t_ h0 k0 w_ z_ slots old, kx_0 q_row q_cell len, kx_a q_cell cyI 160 f, (ho, .inl (cyL, 1, .inr (.inl u.1)))] t.heap ∧ va_K (dC, dI) vwCl [(cyI, .int), (cyL, .long)] t ∧ va_D (va_A [kx_4 m_ q_row q_t t_ h0 k0 w_ z_ slots old, kx_0 q_row q_cell len, kx_a q_cell cyI 160 f, (ho, .inl (cyL, 1, .inr (.inl ol)))] sz) [kx_4 m_ q_row q_t t_ h0 k0 w_ z_ slots old, kx_0 q_row q_cell len, kx_a q_cell cyI 160 f, (ho, .inl (cyL, 1, .inr (.inl u.1)))]) (va_A [kx_4 m_ q_row q_t t_ h0 k0 w_ z_ slots old, kx_0 q_row q_cell len, kx_a q_cell cyI 160 f, (ho, .inl (cyL, 1, .inr (.inl ol)))] sz)) 1 6 (va_A [kx_4 m_ q_row q_t t_ h0 k0 w_ z_ slots old, kx_0 q_row q_cell len, kx_a q_cell cyI 160 f, (ho, .inl (cyL, 1, .inr (.inl ol)))] sz) := by
  refine va_MetW (cc := cL_at) (maxL := 4) (ret := (some .int)) (hh := [(0, 9, 12, 13)]) (by decide) rfl ?_
  intro p e s m args below meth c s₁ B hml hv
  obtain ⟨rfl, hsz, hP, hK, hD0, hth⟩ := hv
  have hx := B.exec
  have hb := B.bytes
  have hr := B.returns
  have hts := atoms_spec (ws := wsL_at) B.pre
  have hown : s.vm.findClass RL = some m.cls := findClass_of_methodNamed B.named
  have hlocks := B.notSynchronized
  have htb : c.exceptionTable.toList = tableOf [(0, 9, 12, 13)] := vx_table (x := yL_at) B (hts (.codeWith yL_at cL_at 4 (some .int) [(0, 9, 12, 13)]) List.mem_cons_self)
  subst hsz
  have hD := hD0.self (sz := s.heap.size)
  generalize hAe : va_A [kx_4 m_ q_row q_t t_ h0 k0 w_ z_ slots old, kx_0 q_row q_cell len, kx_a q_cell cyI 160 f, (ho, .inl (cyL, 1, .inr (.inl ol)))] s.heap.size = A at hD hth ⊢
  have hA : ∀ q : Nat, s.heap.size ≤ q → A q := fun q h => by rw [← hAe]; exact Or.inr h
  have hS : va_S A s.heap s.heap [] := va_S.rf
  have hP : va_P (dC, dI) vwCl [kx_4 m_ q_row q_t t_ h0 k0 w_ z_ slots old, kx_0 q_row q_cell len, kx_a q_cell cyI 160 f, (ho, .inl (cyL, 1, .inr (.inl ol)))] s.heap := hP
  have hl := lv_entry ([.ref m_, .int p0, .ref ho]) (n := 4) (Nat.le_of_ble_eq_true rfl)
  rw [lg_entry_eq]
  generalize (lg_sl ([.ref m_, .int p0, .ref ho]) ++ List.replicate (4 - (lg_sl ([.ref m_, .int p0, .ref ho])).length) Slot.unset).toArray = ls at hl ⊢
  have hl : lv_has ls 4 [(0, .ref m_), (1, .int p0), (2, .ref ho)] := hl
  refine lv_aload_n hx hb dL_at_0 rfl (lv_at hl 2 rfl) ?_
  refine lv_iconst (v := 0) hx hb dL_at_1 (by decide) ?_
  refine lv_aload_n hx hb dL_at_2 rfl (lv_at hl 0 rfl) ?_
  refine lv_iload_n hx hb dL_at_3 rfl (lv_at hl 1 rfl) ?_
  have hPc := hP.sub (ws' := [kx_4 m_ q_row q_t t_ h0 k0 w_ z_ slots old, kx_0 q_row q_cell len, kx_a q_cell cyI 160 f]) [0, 1, 2] rfl
  have hKc := hK.sub (tys' := [(cyI, .int)]) [0] rfl
  have hDc := hD.sub (ws' := [kx_4 m_ q_row q_t t_ h0 k0 w_ z_ slots old, kx_0 q_row q_cell len, kx_a q_cell cyI 160 f]) [0, 1, 2] (by decide) rfl
  have hFc := va_free (wc := [kx_4 m_ q_row q_t t_ h0 k0 w_ z_ slots old, kx_0 q_row q_cell len, kx_a q_cell cyI 160 f]) hD hS hA [0, 1, 2] rfl
  refine vx_calli (vx_runV (As := [.int p0]) (rest := [.int 0, .ref ho]) ⟨hx, hb, hml, hown, hts⟩ (c_X4_at l hl0 dC dI m_ q_row q_t t_ h0 k0 w_ z_ slots old q_cell cyI len f p0 s.heap.size a0 a1) (cwV 1 hts gL_at_X4_at rfl rfl rfl (by decide +kernel) ⟨Nat.le_of_ble_eq_true rfl, Nat.le_of_ble_eq_true rfl⟩) ⟨fun a U g mk q => by obtain ⟨q0, q1, qP, qK, qD, qT⟩ := q; exact ⟨q0, q1, qP, va_K.moved (u := U) (U := U.calling g mk a) (Vm.Alike.refl U.vm) qK, qD, qT.call g mk a⟩, va_recv hKc hPc (ci := 4) (q0 := 0) rfl rfl, fun U hU hW => ⟨rfl, by rw [hU], by rw [hU]; exact hPc, va_K.moved hW.alike hKc, hDc.weaken (fun _ _ _ _ => trivial), hth.from hS hU hW hFc⟩⟩ rfl rfl hl.1 rfl (lv_room (Nat.le_of_ble_eq_true rfl)) dL_at_4 ⟨Nat.le_of_ble_eq_true rfl, Nat.le_of_ble_eq_true rfl⟩) hS (fun q _ h => hFc q h) hFc (fun q _ h => hFc q h) (fun E ce q9 u t H1 locs ht hvm w_1 hB hz1 hk1 hS hce hcv hcl => ?_) (fun r_1 u t H1 locs ht hvm w_1 hB hz1 hk1 hS => ?_)
  · obtain ⟨hE, hP1, hK1, hD1⟩ := hB
    subst hE
    rw [ht] at hP1
    have hK1 := va_K.moved hvm.symm hK1
    obtain ⟨hP, hD⟩ := va_join (wr := [(ho, .inl (cyL, 1, .inr (.inl ol)))]) (w1 := [kx_4 m_ q_row q_t t_ h0 k0 w_ z_ slots old, kx_0 q_row q_cell len, kx_a q_cell cyI 160 f]) hP hD [0, 1, 2] [3] rfl rfl (by decide) (by decide) hk1 hFc hP1 hD1
    clear hP1 hD1 hK1 hk1 hz1 hFc hDc hPc hKc
    generalize H1 = H at hP hS hce ⊢
    obtain ⟨hP, hD⟩ := kx_re (w2 := [(ho, .inl (cyL, 1, .inr (.inl ol))), kx_4 m_ q_row q_t t_ h0 k0 w_ z_ slots old, kx_0 q_row q_cell len, kx_a q_cell cyI 160 f]) hP hD rfl
    refine vx_catch hown [] ⟨0, 9, 12, 13⟩ [] htb (fun z hz => by cases hz) (by decide) (by decide) (hts (.classLink RL 13 EXN) (by decide +kernel)) (va_Nw.use rfl hth.1.1) hce hcv hcl ?_
    refine W.eq (g2 := F0 m 12 ls [.ref q9]) rfl ?_
    have w_1 : (p0.toInt < 0 ∨ len.toInt ≤ p0.toInt) := w_1
    refine W.widen (k := 1) (n := 6) (Nat.le_of_ble_eq_true rfl) (Nat.le_of_ble_eq_true rfl) ?_
    refine lv_astore_n (lv' := [(3, .ref q9), (0, .ref m_), (1, .int p0), (2, .ref ho)]) hx hb dL_at_12 rfl hl (by decide) rfl (fun ls hl => ?_)
    refine lv_iconst (v := 1) hx hb dL_at_13 (by decide) ?_
    obtain ⟨hP9, hD9⟩ := kx_sub (w2 := [kx_4 m_ q_row q_t t_ h0 k0 w_ z_ slots old, kx_0 q_row q_cell len, kx_a q_cell cyI 160 f, (ho, .inl (cyL, 1, .inr (.inl ol)))]) hP hD [1, 2, 3, 0] (by decide) rfl
    have hK9 := hK
    exact W.iret (v := 1) hx hb hr (fun t ht hW => ⟨⟨1, (ol, (0 : Int32)), rfl, (Or.inr ⟨rfl, w_1⟩), by rw [ht]; exact hP9, va_K.moved hW.alike hK9, hD9⟩, hS.F ht⟩) hS.2.2 dL_at_14
  · obtain ⟨hP1, hK1, hD1⟩ := hB
    rw [ht] at hP1
    have hK1 := va_K.moved hvm.symm hK1
    obtain ⟨hP, hD⟩ := va_join (wr := [(ho, .inl (cyL, 1, .inr (.inl ol)))]) (w1 := [kx_4 m_ q_row q_t t_ h0 k0 w_ z_ slots old, kx_0 q_row q_cell len, kx_a q_cell cyI 160 f]) hP hD [0, 1, 2] [3] rfl rfl (by decide) (by decide) hk1 hFc hP1 hD1
    clear hP1 hD1 hK1 hk1 hz1 hFc hDc hPc hKc
    generalize H1 = H at hP hS ⊢
    obtain ⟨hP, hD⟩ := kx_re (w2 := [(ho, .inl (cyL, 1, .inr (.inl ol))), kx_4 m_ q_row q_t t_ h0 k0 w_ z_ slots old, kx_0 q_row q_cell len, kx_a q_cell cyI 160 f]) hP hD rfl
    have w_1 : 0 ≤ p0.toInt ∧ p0.toInt < len.toInt ∧ r_1 = f p0.toNatClampNeg := w_1
    refine W.widen (k := 1) (n := 6) (Nat.le_of_ble_eq_true rfl) (Nat.le_of_ble_eq_true rfl) ?_
    refine lv_i2l hx hb dL_at_7 rfl ?_
    refine va_last hx hb hK hP hD hS 0 1 rfl rfl (ki_inl (by decide)) dL_at_8 (fun H locs hP hD hS => ?_)
    obtain ⟨hP, hD⟩ := kx_re (w2 := [(ho, .inl (cyL, 1, .inr (.inl (vp_updL ol (0 : Int32).toNatClampNeg r_1.toInt64)))), kx_4 m_ q_row q_t t_ h0 k0 w_ z_ slots old, kx_0 q_row q_cell len, kx_a q_cell cyI 160 f]) hP hD rfl
    refine lv_goto (tgt := 15) hx hb dL_at_9 (by decide) ?_
    refine lv_iconst (v := 0) hx hb dL_at_15 (by decide) ?_
    obtain ⟨hP9, hD9⟩ := kx_sub (w2 := [kx_4 m_ q_row q_t t_ h0 k0 w_ z_ slots old, kx_0 q_row q_cell len, kx_a q_cell cyI 160 f, (ho, .inl (cyL, 1, .inr (.inl (vp_updL ol (0 : Int32).toNatClampNeg r_1.toInt64))))]) hP hD [1, 2, 3, 0] (by decide) rfl
    have hK9 := hK
    exact W.iret (v := 0) hx hb hr (fun t ht hW => ⟨⟨0, ((vp_updL ol (0 : Int32).toNatClampNeg r_1.toInt64), r_1), rfl, (Or.inl ⟨rfl, w_1, rfl⟩), by rw [ht]; exact hP9, va_K.moved hW.alike hK9, hD9⟩, hS.F ht⟩) hS.2.2 dL_at_16



theorem cnt_hit1 {f : Nat → Int32} {v : Int32} {l k k2 : Nat} (e : f (l + k) = v) (h : k2 = k + 1) : cnt f v l k2 = cnt f v l k + 1 := by
  subst h
  simp only [cnt]
  rw [if_pos e]
theorem cnt_miss1 {f : Nat → Int32} {v : Int32} {l k k2 : Nat} (e : ¬ f (l + k) = v) (h : k2 = k + 1) : cnt f v l k2 = cnt f v l k := by
  subst h
  simp only [cnt]
  rw [if_neg e]
  omega
def mj_first (P : Nat → Prop) (lo hi : Nat) (none x : Int) : Prop := (∃ m : Nat, lo ≤ m ∧ m < hi ∧ P m ∧ x = (m : Int) ∧ ∀ k : Nat, lo ≤ k → k < m → ¬ P k) ∨ (x = none ∧ ∀ k : Nat, lo ≤ k → k < hi → ¬ P k)


set_option maxHeartbeats 4000000 in
set_option maxRecDepth 100000 in
theorem c_X4_isHeavy_x (l : Launch) (dC : Nat → ClassId) (dI : Nat → Nat → Nat) (p0 : Int32) (p1 : Int32) (p2 : Int32) (p3 : Int32) (b0 : 0 ≤ p0.toInt) (b1 : p0.toInt ≤ 320) (b2 : 0 ≤ p1.toInt) (b3 : p1.toInt ≤ 320) (b4 : 0 ≤ p2.toInt) (b5 : p2.toInt ≤ 999) (b6 : 0 ≤ p3.toInt) (b7 : p3.toInt ≤ 999) : Met l yX4_isHeavy wsX4_isHeavy ({ frames := 0, cells := 0, slots := 0, locals := 0 }) (va_Pc [.int p0, .int p1, .int p2, .int p3] (fun U => va_P (dC, dI) vwCl [] U.heap ∧ va_K (dC, dI) vwCl [] U)) (vp_Si (fun r : Int32 => (r = 1 ∧ p2.toInt * p1.toInt < p0.toInt * p3.toInt) ∨ (r = 0 ∧ p0.toInt * p3.toInt ≤ p2.toInt * p1.toInt))) 0 0 (fun _ => False) := by
  refine Met.ofW (cc := cX4_isHeavy) (maxL := 4) (ret := (some .boolean)) (by decide) rfl ?_
  intro p e s m args below meth c s₁ B hml hv
  obtain ⟨rfl, hP, hK⟩ := hv
  have hx := B.exec
  have hb := B.bytes
  have hr := B.returns
  have hts := atoms_spec (ws := wsX4_isHeavy) B.pre
  have hown : s.vm.findClass RX4 = some m.cls := findClass_of_methodNamed B.named
  have hlocks := B.notSynchronized
  have hP : va_P (dC, dI) vwCl [] s.heap := hP
  have hl := lv_entry ([.int p0, .int p1, .int p2, .int p3]) (n := 4) (Nat.le_of_ble_eq_true rfl)
  rw [lg_entry_eq]
  generalize (lg_sl ([.int p0, .int p1, .int p2, .int p3]) ++ List.replicate (4 - (lg_sl ([.int p0, .int p1, .int p2, .int p3])).length) Slot.unset).toArray = ls at hl ⊢
  have hl : lv_has ls 4 [(0, .int p0), (1, .int p1), (2, .int p2), (3, .int p3)] := hl
  refine lv_iload_n hx hb dX4_isHeavy_0 rfl (lv_at hl 0 rfl) ?_
  refine lv_iload_n hx hb dX4_isHeavy_1 rfl (lv_at hl 3 rfl) ?_
  refine lv_imul hx hb dX4_isHeavy_2 ?_
  refine lv_topi (fun y_1 ey_1 => ?_)
  refine lv_iload_n hx hb dX4_isHeavy_3 rfl (lv_at hl 2 rfl) ?_
  refine lv_iload_n hx hb dX4_isHeavy_4 rfl (lv_at hl 1 rfl) ?_
  refine lv_imul hx hb dX4_isHeavy_5 ?_
  refine lv_topi (fun y_2 ey_2 => ?_)
  have h1 := ki_mulb (a := p0.toInt) (b := p3.toInt) (A := 320) (B := 999) (by omega) (by omega) (by omega) (by omega)
  have h2 := ki_mulb (a := p2.toInt) (b := p1.toInt) (A := 999) (B := 320) (by omega) (by omega) (by omega) (by omega)
  have m1 : y_1.toInt = p0.toInt * p3.toInt := ki_mul ey_1 rfl rfl (by omega) (by omega)
  have m2 : y_2.toInt = p2.toInt * p1.toInt := ki_mul ey_2 rfl rfl (by omega) (by omega)
  refine lv_icmp_le (tgt := 13) hx hb dX4_isHeavy_6 (by decide) (fun c_3 => ?_) (fun c_3 => ?_)
  · have i_3 : y_1.toInt ≤ y_2.toInt := kc_le c_3
    refine lv_iconst (v := 0) hx hb dX4_isHeavy_13 (by decide) ?_
    exact W.zret (v := 0) hx hb hr (by decide) (fun t ht hW => ⟨0, rfl, Or.inr (⟨rfl, by omega⟩), ht⟩) (fun q hq => by cases hq) dX4_isHeavy_14
  · have i_3 : y_2.toInt < y_1.toInt := kc_nle c_3
    refine lv_iconst (v := 1) hx hb dX4_isHeavy_9 (by decide) ?_
    refine lv_goto (tgt := 14) hx hb dX4_isHeavy_10 (by decide) ?_
    exact W.zret (v := 1) hx hb hr (by decide) (fun t ht hW => ⟨1, rfl, Or.inl ⟨rfl, by omega⟩, ht⟩) (fun q hq => by cases hq) dX4_isHeavy_14



/-! the class's votes -/
theorem mj_lea_sw {V N : Nat → Int32} {i k x y : Nat} : mj_lea (mj_ex V i k) (mj_ex N i k) x y ↔ mj_lea V N (mj_sw i k x) (mj_sw i k y) := by
  unfold mj_lea
  simp only [mj_ex_sw]
/-- in order up to i but for j, which is ahead of all behind it -/
def mj_in (V N : Nat → Int32) (i j : Nat) : Prop := (∀ x y : Nat, x < y → y ≤ i → ¬ x = j → ¬ y = j → mj_lea V N x y) ∧ (∀ y : Nat, j < y → y ≤ i → mj_lea V N j y)
theorem mj_in_new {V N : Nat → Int32} {i j : Nat} (h : mj_srt V N 0 i) (e : j = i) : mj_in V N i j := by
  subst e
  refine ⟨fun x y h1 h2 h3 h4 => ?_, fun y h1 h2 => by omega⟩
  have := h x y h1 (by omega)
  rw [Nat.zero_add, Nat.zero_add] at this
  exact this
theorem mj_in_swap {V N : Nat → Int32} {i j k : Nat} (h : mj_in V N i j) (ek : j = k + 1) (hj : j ≤ i) (hl : mj_lea V N j k) : mj_in (mj_ex V j k) (mj_ex N j k) i k := by
  subst ek
  have sj : mj_sw (k + 1) k (k + 1) = k := by unfold mj_sw; rw [if_pos rfl]
  have sk : mj_sw (k + 1) k k = k + 1 := by unfold mj_sw; rw [if_neg (by omega), if_pos rfl]
  have so : ∀ y : Nat, ¬ y = k + 1 → ¬ y = k → mj_sw (k + 1) k y = y := fun y h1 h2 => by unfold mj_sw; rw [if_neg h1, if_neg h2]
  refine ⟨fun x y h1 h2 h3 h4 => mj_lea_sw.mpr ?_, fun y h1 h2 => mj_lea_sw.mpr ?_⟩
  · by_cases hx : x = k + 1
    · subst hx
      rw [sj, so y (by omega) (by omega)]
      exact h.1 k y (by omega) h2 (by omega) (by omega)
    · by_cases hy : y = k + 1
      · subst hy
        rw [sj, so x (by omega) (by omega)]
        exact h.1 x k (by omega) (by omega) (by omega) (by omega)
      · rw [so x hx h3, so y hy h4]
        exact h.1 x y h1 h2 hx hy
  · rw [sk]
    by_cases hy : y = k + 1
    · subst hy; rw [sj]; exact hl
    · rw [so y hy (by omega)]
      exact h.2 y (by omega) h2
theorem mj_in_end {V N : Nat → Int32} {i j i2 : Nat} (h : mj_in V N i j) (hj : j ≤ i) (hl : j = 0 ∨ mj_lea V N (j - 1) j) (e : i2 = i + 1) : mj_srt V N 0 i2 := by
  subst e
  intro x y hxy hy
  rw [Nat.zero_add, Nat.zero_add]
  by_cases hx : x = j
  · subst hx; exact h.2 y hxy (by omega)
  · by_cases hyj : y = j
    · subst hyj
      rcases hl with hl | hl
      · omega
      · by_cases hx1 : x = y - 1
        · rw [hx1]; exact hl
        · exact mj_lea_trans (h.1 x (y - 1) (by omega) (by omega) hx (by omega)) hl
    · exact h.1 x y hxy (by omega) hx hyj
theorem mj_srt_1 (V N : Nat → Int32) {m : Nat} (h : m ≤ 1) : mj_srt V N 0 m := fun i j hij hj => by omega
/-- cancelled up to k: the first lf are left -/
def mj_wc (K : Nat) (N : Nat → Int32) (c : Int) (lf k : Nat) (wn : Nat → Int32) : Prop := lf ≤ k ∧ lf ≤ K ∧ (∀ j : Nat, j < k → (wn j).toInt = (N j).toInt - c) ∧ (∀ j : Nat, j < lf → c < (N j).toInt) ∧ (∀ j : Nat, lf ≤ j → j < k → (N j).toInt ≤ c) ∧ (∀ j : Nat, k ≤ j → wn j = N j)
theorem mj_wc_0 (K : Nat) (N : Nat → Int32) (c : Int) {lf k : Nat} (h1 : lf = 0) (h2 : k = 0) : mj_wc K N c lf k N := by
  subst h1; subst h2
  exact ⟨Nat.le_refl 0, Nat.zero_le K, fun j h => absurd h (Nat.not_lt_zero j), fun j h => absurd h (Nat.not_lt_zero j), fun j _ h => absurd h (Nat.not_lt_zero j), fun j _ => rfl⟩
theorem mj_wc_step {K : Nat} {V N wn : Nat → Int32} {c : Int} {lf k k2 lf2 m : Nat} {x : Int32} (h : mj_wc K N c lf k wn) (hs : mj_srt V N 0 m) (hkm : k < m) (ex : x.toInt = (N k).toInt - c) (hK : K < m → c = (N K).toInt) (e2 : k2 = k + 1) (hl : (c < (N k).toInt ∧ lf2 = lf + 1) ∨ ((N k).toInt ≤ c ∧ lf2 = lf)) : mj_wc K N c lf2 k2 (upd wn k x) := by
  obtain ⟨h1, h2, h3, h4, h5, h6⟩ := h
  subst e2
  have w1 : ∀ j : Nat, j < k + 1 → (upd wn k x j).toInt = (N j).toInt - c := fun j hj => by
    by_cases e : j = k
    · subst e; rw [upd_at]; exact ex
    · rw [upd_ne e]; exact h3 j (by omega)
  have w2 : ∀ j : Nat, k + 1 ≤ j → upd wn k x j = N j := fun j hj => by rw [upd_ne (by omega)]; exact h6 j (by omega)
  rcases hl with ⟨hc, rfl⟩ | ⟨hc, rfl⟩
  · have hlk : lf = k := by
      rcases Nat.lt_or_eq_of_le h1 with h9 | h9
      · have a := h5 lf (Nat.le_refl lf) h9
        have b := hs lf k h9 hkm
        unfold mj_lea at b
        simp only [Nat.zero_add] at b
        omega
      · exact h9
    have hkK : k < K := by
      rcases Nat.lt_or_ge k K with h9 | h9
      · exact h9
      · rcases Nat.lt_or_ge K m with h8 | h8
        · have a := hK h8
          rcases Nat.lt_or_eq_of_le h9 with h7 | h7
          · have b := hs K k h7 hkm
            unfold mj_lea at b
            simp only [Nat.zero_add] at b
            omega
          · subst h7; omega
        · omega
    subst hlk
    refine ⟨Nat.le_refl _, hkK, w1, fun j hj => ?_, fun j ha hb => by omega, w2⟩
    rcases Nat.lt_or_eq_of_le (Nat.le_of_lt_succ hj) with h9 | h9
    · exact h4 j h9
    · subst h9; exact hc
  · refine ⟨by omega, h2, w1, h4, fun j ha hb => ?_, w2⟩
    rcases Nat.lt_or_eq_of_le (Nat.le_of_lt_succ hb) with h9 | h9
    · exact h5 j ha h9
    · subst h9; exact hc
theorem mj_wc_end {K : Nat} {V N wn : Nat → Int32} {c : Int} {lf k m : Nat} {μ : Int32 → Int} (h : mj_wc K N c lf k wn) (hk : k = m) (hv : mj_vs V N 0 m μ) (hs : mj_srt V N 0 m) (hc : 0 ≤ c) : mj_vs V wn 0 lf (fun v => if c < μ v then μ v - c else 0) ∧ mj_srt V wn 0 lf := by
  obtain ⟨h1, h2, h3, h4, h5, h6⟩ := h
  refine mj_wr_end (K := K) (vv := V) (vn := wn) ⟨h1, h2, fun j hj => ?_, h5, fun q _ => ⟨rfl, rfl⟩⟩ hk hv hs hc
  rw [Nat.zero_add]
  exact ⟨rfl, h3 j (by omega), h4 j hj⟩
/-- one summary cancelled by slots K -/
def mj_can (K : Nat) (ν μ : Int32 → Int) (c : Int32) : Prop := ∃ (V N : Nat → Int32) (m : Nat), mj_vs V N 0 m ν ∧ mj_srt V N 0 m ∧ ((m ≤ K ∧ c.toInt = 0) ∨ (K < m ∧ c = N K)) ∧ ∀ v, μ v = if c.toInt < ν v then ν v - c.toInt else 0
theorem mj_can_tog {K : Nat} {ν μa μb μ : Int32 → Int} {c : Int32} (h : mj_can K ν μ c) (e : ∀ v, ν v = μa v + μb v) : mj_tog K μa μb μ c := by
  obtain ⟨V, N, m, h1, h2, h3, h4⟩ := h
  exact ⟨V, N, m, mj_vs_congr h1 e, h2, h3, fun v => by rw [h4 v, e v]⟩
/-! uniqueness -/
theorem mj_vs_uni {V N V2 N2 : Nat → Int32} {o o2 m m2 : Nat} {μ : Int32 → Int} (h : mj_vs V N o m μ) (hs : mj_srt V N o m) (h2 : mj_vs V2 N2 o2 m2 μ) (hs2 : mj_srt V2 N2 o2 m2) : ∀ j : Nat, j < m → j < m2 ∧ V (o + j) = V2 (o2 + j) := by
  intro j
  induction j using Nat.strongRecOn with
  | _ j ih =>
    intro hj
    have hp := h.1 j hj
    obtain ⟨i, hi, ei⟩ := h2.2.2 (V (o + j)) (by omega)
    have hij : j ≤ i := by
      rcases Nat.lt_or_ge i j with h9 | h9
      · have := (ih i h9 (by omega)).2
        have := h.2.1 i j (by omega) hj (this.trans ei)
        omega
      · exact h9
    rcases Nat.lt_or_eq_of_le hij with h9 | h9
    · exfalso
      have hj2 : j < m2 := by omega
      have hp2 := h2.1 j hj2
      obtain ⟨k, hk, ek⟩ := h.2.2 (V2 (o2 + j)) (by omega)
      have hjk : j < k := by
        rcases Nat.lt_trichotomy k j with h8 | h8 | h8
        · have := (ih k h8 hk).2
          have := h2.2.1 k j (by omega) hj2 (this.symm.trans ek)
          omega
        · subst h8
          have := h2.2.1 k i (by omega) hi (ek.symm.trans ei.symm)
          omega
        · exact h8
      have a := hs j k hjk hk
      have b := hs2 j i h9 hi
      have pk := h.1 k hk
      have pi := h2.1 i hi
      unfold mj_lea at a b
      rw [ek] at a pk
      rw [ei] at b pi
      rcases a with a | ⟨a1, a2⟩
      · rcases b with b | ⟨b1, b2⟩
        · omega
        · omega
      · rcases b with b | ⟨b1, b2⟩
        · omega
        · have e9 : V (o + j) = V2 (o2 + j) := Int32.toInt_inj.mp (by omega)
          have := h2.2.1 j i hj2 hi (e9.symm.trans ei.symm)
          omega
    · subst h9
      exact ⟨hi, ei.symm⟩
theorem mj_vs_size {V N V2 N2 : Nat → Int32} {o o2 m m2 : Nat} {μ : Int32 → Int} (h : mj_vs V N o m μ) (hs : mj_srt V N o m) (h2 : mj_vs V2 N2 o2 m2 μ) (hs2 : mj_srt V2 N2 o2 m2) : m = m2 ∧ ∀ j : Nat, j < m → V (o + j) = V2 (o2 + j) ∧ N (o + j) = N2 (o2 + j) := by
  have a := mj_vs_uni h hs h2 hs2
  have b := mj_vs_uni h2 hs2 h hs
  have e : m = m2 := by
    rcases Nat.lt_trichotomy m m2 with h9 | h9 | h9
    · have := (b m h9).1; omega
    · exact h9
    · have := (a m2 h9).1; omega
  refine ⟨e, fun j hj => ?_⟩
  have x := a j hj
  refine ⟨x.2, Int32.toInt_inj.mp ?_⟩
  rw [(h.1 j hj).1, (h2.1 j x.1).1, x.2]
/-! the class's tree -/
def mj_ok (K : Nat) (f ff ft fs fo fe uv un : Nat → Int32) (k : Nat) : Prop := ∃ (d : Nat) (μ : Int32 → Int) (L c : Int32), mj_T K f ff ft fs fo fe uv un d k (ff k).toNatClampNeg (ft k).toNatClampNeg μ L c
def mj_mid (ff ft : Nat → Int32) (k : Nat) : Nat := ((ff k).toNatClampNeg + (ft k).toNatClampNeg) / 2
def mj_ch (K : Nat) (f ff ft fs fo fe uv un : Nat → Int32) (k : Nat) : Prop := (ft k).toInt - (ff k).toInt = 1 ∨ (2 ≤ (ft k).toInt - (ff k).toInt ∧ ∃ (d : Nat) (μa : Int32 → Int) (La ca : Int32) (μb : Int32 → Int) (Lb cb : Int32), mj_T K f ff ft fs fo fe uv un d (k + 1) (ff k).toNatClampNeg (mj_mid ff ft k) μa La ca ∧ mj_T K f ff ft fs fo fe uv un d (k + 2 * (mj_mid ff ft k - (ff k).toNatClampNeg)) (mj_mid ff ft k) (ft k).toNatClampNeg μb Lb cb)
def mj_jn (K : Nat) (f ff ft fs fo fe uv un : Nat → Int32) (k : Nat) (μ : Int32 → Int) (L c : Int32) : Prop := ((ft k).toInt - (ff k).toInt = 1 ∧ μ = mj_one (f (ff k).toNatClampNeg) ∧ L = 0 ∧ c = 0) ∨ (2 ≤ (ft k).toInt - (ff k).toInt ∧ ∃ (d : Nat) (μa : Int32 → Int) (La ca : Int32) (μb : Int32 → Int) (Lb cb : Int32), mj_T K f ff ft fs fo fe uv un d (k + 1) (ff k).toNatClampNeg (mj_mid ff ft k) μa La ca ∧ mj_T K f ff ft fs fo fe uv un d (k + 2 * (mj_mid ff ft k - (ff k).toNatClampNeg)) (mj_mid ff ft k) (ft k).toNatClampNeg μb Lb cb ∧ mj_tog K μa μb μ c ∧ L = La + Lb + c)
theorem mj_T_mono {K : Nat} {f nl nr fm fl fe vv vn : Nat → Int32} : ∀ (d a l r : Nat) (μ : Int32 → Int) (L c : Int32), mj_T K f nl nr fm fl fe vv vn d a l r μ L c → mj_T K f nl nr fm fl fe vv vn (d + 1) a l r μ L c
  | 0, a, l, r, μ, L, c, h => Or.inl h
  | d + 1, a, l, r, μ, L, c, h => by
    rcases h with h | ⟨h1, h2, μa, La, ca, μb, Lb, cb, ta, tb, h3, h4⟩
    · exact Or.inl h
    · exact Or.inr ⟨h1, h2, μa, La, ca, μb, Lb, cb, mj_T_mono d _ _ _ _ _ _ ta, mj_T_mono d _ _ _ _ _ _ tb, h3, h4⟩
theorem mj_T_up {K : Nat} {f nl nr fm fl fe vv vn : Nat → Int32} {a l r : Nat} {μ : Int32 → Int} {L c : Int32} {d : Nat} (h : mj_T K f nl nr fm fl fe vv vn d a l r μ L c) : ∀ n : Nat, mj_T K f nl nr fm fl fe vv vn (d + n) a l r μ L c
  | 0 => h
  | n + 1 => mj_T_mono _ _ _ _ _ _ _ (mj_T_up h n)
theorem mj_T_max {K : Nat} {f nl nr fm fl fe vv vn : Nat → Int32} {a l r : Nat} {μ : Int32 → Int} {L c : Int32} {d e : Nat} (h : mj_T K f nl nr fm fl fe vv vn d a l r μ L c) (hde : d ≤ e) : mj_T K f nl nr fm fl fe vv vn e a l r μ L c := by
  obtain ⟨n, rfl⟩ := Nat.le.dest hde
  exact mj_T_up h n
/-- the ranges below a node -/
def mj_cr (ff ft : Nat → Int32) (nd : Int) : Prop := ∀ k : Nat, (k : Int) < nd → 2 ≤ (ft k).toInt - (ff k).toInt → (ff (k + 1)).toNatClampNeg = (ff k).toNatClampNeg ∧ (ft (k + 1)).toNatClampNeg = mj_mid ff ft k ∧ (ff (k + 2 * (mj_mid ff ft k - (ff k).toNatClampNeg))).toNatClampNeg = mj_mid ff ft k ∧ (ft (k + 2 * (mj_mid ff ft k - (ff k).toNatClampNeg))).toNatClampNeg = (ft k).toNatClampNeg
theorem mj_ch_of {K : Nat} {f ff ft fs fo fe uv un : Nat → Int32} {nd n : Int} {k : Nat} (ht : treeOk ff ft nd n) (hc : mj_cr ff ft nd) (hk : (k : Int) < nd) (h : ∀ j : Nat, k < j → (j : Int) < nd → mj_ok K f ff ft fs fo fe uv un j) : mj_ch K f ff ft fs fo fe uv un k := by
  obtain ⟨a1, a2, a3, a4⟩ := ht k hk
  have n1 := ki_nat (ff k) rfl a1
  have n2 := ki_nat (ft k) rfl (by omega)
  by_cases hw : (ft k).toInt - (ff k).toInt = 1
  · exact Or.inl hw
  · obtain ⟨c1, c2, c3, c4⟩ := hc k hk (by omega)
    have hm : mj_mid ff ft k = ((ff k).toNatClampNeg + (ft k).toNatClampNeg) / 2 := rfl
    obtain ⟨d1, μa, La, ca, ta⟩ := h (k + 1) (by omega) (by omega)
    obtain ⟨d2, μb, Lb, cb, tb⟩ := h (k + 2 * (mj_mid ff ft k - (ff k).toNatClampNeg)) (by omega) (by omega)
    rw [c1, c2] at ta
    rw [c3, c4] at tb
    exact Or.inr ⟨by omega, d1 + d2, μa, La, ca, μb, Lb, cb, mj_T_max ta (by omega), mj_T_max tb (by omega)⟩
/-- a node's summary written -/
theorem mj_jn_ok {K : Nat} {f ff ft fs fo fe uv un fs2 fo2 fe2 uv2 un2 : Nat → Int32} {k : Nat} {μ : Int32 → Int} {js jl je : Int32} {jv jn : Nat → Int32} (h : mj_jn K f ff ft fs fo fe uv un k μ jl je) (h0 : 0 ≤ (ff k).toInt) (hw : (ff k).toInt < (ft k).toInt) (hv : mj_vs jv jn 0 js.toNatClampNeg μ) (hs : mj_srt jv jn 0 js.toNatClampNeg) (b0 : 0 ≤ js.toInt) (bK : js.toInt ≤ (K : Int)) (hK : K ≤ 6)
    (e1 : fs2 = upd fs k js) (e2 : fo2 = upd fo k jl) (e3 : fe2 = upd fe k je) (w1 : ∀ i : Nat, i < js.toNatClampNeg → uv2 (6 * k + i) = jv i ∧ un2 (6 * k + i) = jn i) (w2 : ∀ q : Nat, (q < 6 * k ∨ 6 * k + 6 ≤ q) → uv2 q = uv q ∧ un2 q = un q) : mj_ok K f ff ft fs2 fo2 fe2 uv2 un2 k := by
  subst e1; subst e2; subst e3
  have n1 := ki_nat (ff k) rfl h0
  have n2 := ki_nat (ft k) rfl (by omega)
  have n3 := ki_nat js rfl b0
  have nd : mj_nd K ff ft (upd fs k js) (upd fo k jl) (upd fe k je) uv2 un2 k (ff k).toNatClampNeg (ft k).toNatClampNeg μ jl je := by
    unfold mj_nd
    rw [upd_at, upd_at, upd_at]
    refine ⟨by omega, by omega, b0, by omega, bK, rfl, rfl, ?_, ?_⟩
    · refine ⟨fun j hj => ?_, fun i j hi hj q => ?_, fun v hv2 => ?_⟩
      · rw [(w1 j hj).1, (w1 j hj).2]
        have := hv.1 j hj
        rw [Nat.zero_add] at this
        exact this
      · rw [(w1 i hi).1, (w1 j hj).1] at q
        exact hv.2.1 i j hi hj (by rw [Nat.zero_add, Nat.zero_add]; exact q)
      · obtain ⟨j, hj, q⟩ := hv.2.2 v hv2
        rw [Nat.zero_add] at q
        exact ⟨j, hj, by rw [(w1 j hj).1]; exact q⟩
    · intro i j hij hj
      have := hs i j hij hj
      unfold mj_lea at this ⊢
      rw [Nat.zero_add, Nat.zero_add] at this
      rw [(w1 i (by omega)).1, (w1 i (by omega)).2, (w1 j hj).1, (w1 j hj).2]
      exact this
  have ag : ∀ a b : Nat, k < a → mj_ag a b ff ft fs fo fe uv un ff ft (upd fs k js) (upd fo k jl) (upd fe k je) uv2 un2 := fun a b hab =>
    ⟨fun q x y => by
      have : ¬ q = k := by omega
      rw [upd_ne this, upd_ne this, upd_ne this]
      exact ⟨rfl, rfl, rfl, rfl, rfl⟩, fun q x y => w2 q (by omega)⟩
  rcases h with ⟨q1, q2, q3, q4⟩ | ⟨q1, d, μa, La, ca, μb, Lb, cb, ta, tb, tg, q2⟩
  · exact ⟨0, μ, jl, je, by omega, q2, q3, q4, nd⟩
  · refine ⟨d + 1, μ, jl, je, Or.inr ⟨by omega, nd, μa, La, ca, μb, Lb, cb, ?_, ?_, tg, q2⟩⟩
    · exact mj_T_ag d _ _ _ _ _ _ _ ta (Nat.le_refl _) (ag _ _ (by omega))
    · have hm : mj_mid ff ft k = ((ff k).toNatClampNeg + (ft k).toNatClampNeg) / 2 := rfl
      exact mj_T_ag d _ _ _ _ _ _ _ tb (Nat.le_refl _) (ag _ _ (by omega))
theorem mj_ok_ag {K : Nat} {f ff ft fs fo fe uv un fs2 fo2 fe2 uv2 un2 : Nat → Int32} {k : Nat} (h : mj_ok K f ff ft fs fo fe uv un k) (ag : ∀ b : Nat, b ≤ k + 2 * ((ft k).toNatClampNeg - (ff k).toNatClampNeg) - 1 → mj_ag k b ff ft fs fo fe uv un ff ft fs2 fo2 fe2 uv2 un2) : mj_ok K f ff ft fs2 fo2 fe2 uv2 un2 k := by
  obtain ⟨d, μ, L, c, t⟩ := h
  exact ⟨d, μ, L, c, mj_T_ag d _ _ _ _ _ _ _ t (Nat.le_refl _) (ag _ (Nat.le_refl _))⟩
/-- the row changed elsewhere -/
theorem mj_T_row {K : Nat} {f f2 nl nr fm fl fe vv vn : Nat → Int32} : ∀ (d a l r : Nat) (μ : Int32 → Int) (L c : Int32), mj_T K f nl nr fm fl fe vv vn d a l r μ L c → (∀ p : Nat, l ≤ p → p < r → f2 p = f p) → mj_T K f2 nl nr fm fl fe vv vn d a l r μ L c
  | 0, a, l, r, μ, L, c, h, e => by
    obtain ⟨h1, h2, h3, h4, h5⟩ := h
    exact ⟨h1, by rw [e l (Nat.le_refl l) (by omega)]; exact h2, h3, h4, h5⟩
  | d + 1, a, l, r, μ, L, c, h, e => by
    rcases h with ⟨h1, h2, h3, h4, h5⟩ | ⟨h1, h2, μa, La, ca, μb, Lb, cb, ta, tb, h3, h4⟩
    · exact Or.inl ⟨h1, by rw [e l (Nat.le_refl l) (by omega)]; exact h2, h3, h4, h5⟩
    · exact Or.inr ⟨h1, h2, μa, La, ca, μb, Lb, cb, mj_T_row d _ _ _ _ _ _ ta (fun p a b => e p a (by omega)), mj_T_row d _ _ _ _ _ _ tb (fun p a b => e p (by omega) b), h3, h4⟩
def mj_kp (jv jn uv un wv wn : Nat → Int32) (k n : Nat) : Prop := (∀ i : Nat, i < n → wv (6 * k + i) = jv i ∧ wn (6 * k + i) = jn i) ∧ (∀ q : Nat, (q < 6 * k ∨ 6 * k + 6 ≤ q) → wv q = uv q ∧ wn q = un q)
theorem mj_kp_0 (jv jn uv un : Nat → Int32) (k : Nat) {n : Nat} (h : n = 0) : mj_kp jv jn uv un uv un k n := ⟨fun i hi => absurd hi (by omega), fun q _ => ⟨rfl, rfl⟩⟩
theorem mj_kp_step {jv jn uv un wv wn : Nat → Int32} {k n n2 q1 q2 : Nat} {x y : Int32} (h : mj_kp jv jn uv un wv wn k n) (hn : n < 6) (e1 : q1 = 6 * k + n) (e2 : q2 = 6 * k + n) (ex : x = jv n) (ey : y = jn n) (e : n2 = n + 1) : mj_kp jv jn uv un (upd wv q1 x) (upd wn q2 y) k n2 := by
  subst e1; subst e2; subst ex; subst ey; subst e
  refine ⟨fun i hi => ?_, fun q hq => ?_⟩
  · by_cases e : i = n
    · subst e
      rw [upd_at, upd_at]
      exact ⟨rfl, rfl⟩
    · rw [upd_ne (by omega), upd_ne (by omega)]
      exact h.1 i (by omega)
  · rw [upd_ne (by omega), upd_ne (by omega)]
    exact h.2 q hq
def mj_sj (fs fo uv un : Nat → Int32) (k : Nat) (js jl : Int32) (jv jn : Nat → Int32) : Prop := fs k = js ∧ fo k = jl ∧ ∀ i : Nat, i < js.toNatClampNeg → uv (6 * k + i) = jv i ∧ un (6 * k + i) = jn i
def mj_hit (ff ft : Nat → Int32) (l r : Int) (k : Nat) : Prop := (ff k).toInt < r ∧ l < (ft k).toInt
def mj_e1 (fs fo fe uv un fs2 fo2 fe2 uv2 un2 : Nat → Int32) (k : Nat) : Prop := fs2 k = fs k ∧ fo2 k = fo k ∧ fe2 k = fe k ∧ ∀ q : Nat, 6 * k ≤ q → q < 6 * k + 6 → uv2 q = uv q ∧ un2 q = un q
/-- the nodes from b on are right, those before b and those not met are as they were -/
def mj_rn (K : Nat) (f ff ft fs fo fe uv un fs2 fo2 fe2 uv2 un2 : Nat → Int32) (l r nd : Int) (b : Nat) : Prop :=
  (∀ k : Nat, b ≤ k → (k : Int) < nd → mj_ok K f ff ft fs2 fo2 fe2 uv2 un2 k) ∧ (∀ k : Nat, (k : Int) < nd → (k < b ∨ ¬ mj_hit ff ft l r k) → mj_e1 fs fo fe uv un fs2 fo2 fe2 uv2 un2 k)
theorem mj_rn_0 (K : Nat) (f ff ft fs fo fe uv un : Nat → Int32) (l r : Int) {nd : Int} {b : Nat} (h : nd ≤ (b : Int)) : mj_rn K f ff ft fs fo fe uv un fs fo fe uv un l r nd b :=
  ⟨fun k h1 h2 => absurd h1 (by omega), fun k _ _ => ⟨rfl, rfl, rfl, fun q _ _ => ⟨rfl, rfl⟩⟩⟩
theorem mj_rn_skip {K : Nat} {f ff ft fs fo fe uv un fs2 fo2 fe2 uv2 un2 : Nat → Int32} {l r nd n : Int} {b k : Nat} (h : mj_rn K f ff ft fs fo fe uv un fs2 fo2 fe2 uv2 un2 l r nd b) (ht : treeOk ff ft nd n) (hOld : ∀ k : Nat, (k : Int) < nd → ¬ mj_hit ff ft l r k → mj_ok K f ff ft fs fo fe uv un k) (hb : b = k + 1) (hk : (k : Int) < nd) (hn : ¬ mj_hit ff ft l r k) : mj_rn K f ff ft fs fo fe uv un fs2 fo2 fe2 uv2 un2 l r nd k := by
  subst hb
  refine ⟨fun j h1 h2 => ?_, fun j h1 h2 => h.2 j h1 (h2.imp Nat.lt_succ_of_lt id)⟩
  rcases Nat.lt_or_eq_of_le h1 with h9 | h9
  · exact h.1 j h9 h2
  · subst h9
    have old := hOld k hk hn
    obtain ⟨a1, a2, a3, a4⟩ := ht k hk
    have n1 := ki_nat (ff k) rfl a1
    have n2 := ki_nat (ft k) rfl (by omega)
    obtain ⟨d, μ, L, c, t⟩ := id old
    refine mj_ok_ag old (fun b2 hb2 => ?_)
    have e : ∀ j : Nat, k ≤ j → j < b2 → mj_e1 fs fo fe uv un fs2 fo2 fe2 uv2 un2 j := fun j x y => by
      obtain ⟨d2, l2, r2, μ2, L2, c2, y1, y2, y3, y4⟩ := mj_T_all d _ _ _ _ _ _ t j x (by omega)
      have nd2 := mj_T_nd y4
      have m1 := nd2.1
      have m2 := nd2.2.1
      refine h.2 j (by omega) (Or.inr (fun hh => hn ⟨?_, ?_⟩))
      · have := hh.1; omega
      · have := hh.2; omega
    refine ⟨fun j x y => ?_, fun q x y => ?_⟩
    · obtain ⟨e1, e2, e3, -⟩ := e j x y
      exact ⟨rfl, rfl, e1, e2, e3⟩
    · exact (e (q / 6) (by omega) (by omega)).2.2.2 q (by omega) (by omega)
theorem mj_rn_put {K : Nat} {f ff ft fs fo fe uv un fs2 fo2 fe2 uv2 un2 fs3 fo3 fe3 uv3 un3 : Nat → Int32} {l r nd : Int} {b k : Nat} {js jl je : Int32} (h : mj_rn K f ff ft fs fo fe uv un fs2 fo2 fe2 uv2 un2 l r nd b) (hb : b = k + 1) (hh : mj_hit ff ft l r k) (ok : mj_ok K f ff ft fs3 fo3 fe3 uv3 un3 k) (e1 : fs3 = upd fs2 k js) (e2 : fo3 = upd fo2 k jl) (e3 : fe3 = upd fe2 k je) (w2 : ∀ q : Nat, (q < 6 * k ∨ 6 * k + 6 ≤ q) → uv3 q = uv2 q ∧ un3 q = un2 q) : mj_rn K f ff ft fs fo fe uv un fs3 fo3 fe3 uv3 un3 l r nd k := by
  subst hb
  refine ⟨fun j h1 h2 => ?_, fun j h1 h2 => ?_⟩
  · rcases Nat.lt_or_eq_of_le h1 with h9 | h9
    · refine mj_ok_ag (h.1 j h9 h2) (fun b2 _ => ⟨fun q x y => ?_, fun q x y => w2 q (by omega)⟩)
      have : ¬ q = k := by omega
      rw [e1, e2, e3, upd_ne this, upd_ne this, upd_ne this]
      exact ⟨rfl, rfl, rfl, rfl, rfl⟩
    · subst h9; exact ok
  · have hne : ¬ j = k := fun e => by
      subst e
      rcases h2 with h2 | h2
      · omega
      · exact h2 hh
    obtain ⟨x1, x2, x3, x4⟩ := h.2 j h1 (h2.imp Nat.lt_succ_of_lt id)
    refine ⟨?_, ?_, ?_, fun q y1 y2 => ?_⟩
    · rw [e1, upd_ne hne]; exact x1
    · rw [e2, upd_ne hne]; exact x2
    · rw [e3, upd_ne hne]; exact x3
    · have z := w2 q (by omega)
      have z2 := x4 q y1 y2
      exact ⟨z.1.trans z2.1, z.2.trans z2.2⟩
/-! the ranges as they are laid -/
def mj_l1 (ff ft : Nat → Int32) (k : Nat) : (Nat → Int32) × (Nat → Int32) :=
  if 1 < (ft k).toInt - (ff k).toInt then (upd (upd ff (k + 1) (ff k)) (k + 2 * (((ff k).toInt + (ft k).toInt) / 2 - (ff k).toInt).toNat) (Int32.ofInt (((ff k).toInt + (ft k).toInt) / 2)), upd (upd ft (k + 1) (Int32.ofInt (((ff k).toInt + (ft k).toInt) / 2))) (k + 2 * (((ff k).toInt + (ft k).toInt) / 2 - (ff k).toInt).toNat) (ft k)) else (ff, ft)
def mj_lit (ff ft : Nat → Int32) (a : Nat) : Nat → (Nat → Int32) × (Nat → Int32)
  | 0 => (ff, ft)
  | n + 1 => mj_l1 (mj_lit ff ft a n).1 (mj_lit ff ft a n).2 (a + n)
def mj_R (ff ft : Nat → Int32) : Nat → Nat → Nat → Nat → Prop
  | 0, a, l, r => (ff a).toInt = (l : Int) ∧ (ft a).toInt = (r : Int) ∧ r = l + 1
  | d + 1, a, l, r => (ff a).toInt = (l : Int) ∧ (ft a).toInt = (r : Int) ∧ (r = l + 1 ∨ (l + 2 ≤ r ∧ mj_R ff ft d (a + 1) l ((l + r) / 2) ∧ mj_R ff ft d (a + 2 * ((l + r) / 2 - l)) ((l + r) / 2) r))
theorem mj_lit_add (ff ft : Nat → Int32) (a n : Nat) : ∀ m : Nat, mj_lit ff ft a (n + m) = mj_lit (mj_lit ff ft a n).1 (mj_lit ff ft a n).2 (a + n) m
  | 0 => rfl
  | m + 1 => by
    have ih := mj_lit_add ff ft a n m
    show mj_l1 (mj_lit ff ft a (n + m)).1 (mj_lit ff ft a (n + m)).2 (a + (n + m)) = mj_l1 _ _ (a + n + m)
    rw [ih, Nat.add_assoc]
theorem mj_R_ag {ff ft ff2 ft2 : Nat → Int32} : ∀ (d a l r : Nat), mj_R ff ft d a l r → (∀ k : Nat, a ≤ k → k < a + 2 * (r - l) - 1 → ff2 k = ff k ∧ ft2 k = ft k) → l < r → mj_R ff2 ft2 d a l r
  | 0, a, l, r, h, g, hlr => by
    obtain ⟨h1, h2, h3⟩ := h
    have e := g a (Nat.le_refl a) (by omega)
    exact ⟨by rw [e.1]; exact h1, by rw [e.2]; exact h2, h3⟩
  | d + 1, a, l, r, h, g, hlr => by
    obtain ⟨h1, h2, h3⟩ := h
    have e := g a (Nat.le_refl a) (by omega)
    refine ⟨by rw [e.1]; exact h1, by rw [e.2]; exact h2, ?_⟩
    rcases h3 with h3 | ⟨h3, h4, h5⟩
    · exact Or.inl h3
    · exact Or.inr ⟨h3, mj_R_ag d _ _ _ h4 (fun k x y => g k (by omega) (by omega)) (by omega), mj_R_ag d _ _ _ h5 (fun k x y => g k (by omega) (by omega)) (by omega)⟩
theorem ki_ofInt {x : Int} (h1 : 0 ≤ x) (h2 : x ≤ 1000) : (Int32.ofInt x).toInt = x := Int32.toInt_ofInt_of_le (by omega) (by omega)
theorem mj_lit_R : ∀ (d a l r : Nat) (ff ft : Nat → Int32), (ff a).toInt = (l : Int) → (ft a).toInt = (r : Int) → l < r → r ≤ 160 → r - l ≤ 2 ^ d → mj_R (mj_lit ff ft a (2 * (r - l) - 1)).1 (mj_lit ff ft a (2 * (r - l) - 1)).2 d a l r ∧ ∀ k : Nat, (k < a ∨ a + 2 * (r - l) - 1 ≤ k ∨ k = a) → (mj_lit ff ft a (2 * (r - l) - 1)).1 k = ff k ∧ (mj_lit ff ft a (2 * (r - l) - 1)).2 k = ft k
  | 0, a, l, r, ff, ft, h1, h2, h3, h4, h5 => by
    have e : r = l + 1 := by
      have : (2 : Nat) ^ 0 = 1 := rfl
      omega
    subst e
    have e2 : 2 * (l + 1 - l) - 1 = 0 + 1 := by omega
    rw [e2]
    have hs : mj_lit ff ft a (0 + 1) = (ff, ft) := by
      show mj_l1 ff ft (a + 0) = (ff, ft)
      unfold mj_l1
      rw [Nat.add_zero, if_neg (by omega)]
    rw [hs]
    exact ⟨⟨h1, h2, rfl⟩, fun k _ => ⟨rfl, rfl⟩⟩
  | d + 1, a, l, r, ff, ft, h1, h2, h3, h4, h5 => by
    by_cases e : r = l + 1
    · subst e
      have e2 : 2 * (l + 1 - l) - 1 = 0 + 1 := by omega
      rw [e2]
      have hs : mj_lit ff ft a (0 + 1) = (ff, ft) := by
        show mj_l1 ff ft (a + 0) = (ff, ft)
        unfold mj_l1
        rw [Nat.add_zero, if_neg (by omega)]
      rw [hs]
      exact ⟨⟨h1, h2, Or.inl rfl⟩, fun k _ => ⟨rfl, rfl⟩⟩
    · have hp : (2 : Nat) ^ (d + 1) = 2 * 2 ^ d := by rw [Nat.pow_succ, Nat.mul_comm]
      have hm : ((l : Int) + (r : Int)) / 2 = (((l + r) / 2 : Nat) : Int) := by omega
      have hrt : a + 2 * (((l : Int) + (r : Int)) / 2 - (l : Int)).toNat = a + 2 * ((l + r) / 2 - l) := by omega
      -- the first step
      have s1 : mj_lit ff ft a 1 = (upd (upd ff (a + 1) (ff a)) (a + 2 * ((l + r) / 2 - l)) (Int32.ofInt (((l + r) / 2 : Nat) : Int)), upd (upd ft (a + 1) (Int32.ofInt (((l + r) / 2 : Nat) : Int))) (a + 2 * ((l + r) / 2 - l)) (ft a)) := by
        show mj_l1 ff ft (a + 0) = _
        unfold mj_l1
        rw [Nat.add_zero, if_pos (by omega), h1, h2, hm]
        have : (a + 2 * ((((l + r) / 2 : Nat) : Int) - (l : Int)).toNat) = a + 2 * ((l + r) / 2 - l) := by omega
        rw [this]
      generalize hA : upd (upd ff (a + 1) (ff a)) (a + 2 * ((l + r) / 2 - l)) (Int32.ofInt (((l + r) / 2 : Nat) : Int)) = fA at s1
      generalize hB : upd (upd ft (a + 1) (Int32.ofInt (((l + r) / 2 : Nat) : Int))) (a + 2 * ((l + r) / 2 - l)) (ft a) = tA at s1
      have mi := ki_ofInt (x := (((l + r) / 2 : Nat) : Int)) (by omega) (by omega)
      have fA1 : (fA (a + 1)).toInt = (l : Int) := by rw [← hA, upd_ne (by omega), upd_at]; exact h1
      have tA1 : (tA (a + 1)).toInt = (((l + r) / 2 : Nat) : Int) := by rw [← hB, upd_ne (by omega), upd_at]; exact mi
      have fAr : (fA (a + 2 * ((l + r) / 2 - l))).toInt = (((l + r) / 2 : Nat) : Int) := by rw [← hA, upd_at]; exact mi
      have tAr : (tA (a + 2 * ((l + r) / 2 - l))).toInt = (r : Int) := by rw [← hB, upd_at]; exact h2
      have oth : ∀ k : Nat, ¬ k = a + 1 → ¬ k = a + 2 * ((l + r) / 2 - l) → fA k = ff k ∧ tA k = ft k := fun k x y => ⟨by rw [← hA, upd_ne y, upd_ne x], by rw [← hB, upd_ne y, upd_ne x]⟩
      -- the left one
      obtain ⟨R1, O1⟩ := mj_lit_R d (a + 1) l ((l + r) / 2) fA tA fA1 tA1 (by omega) (by omega) (by omega)
      generalize hC : mj_lit fA tA (a + 1) (2 * ((l + r) / 2 - l) - 1) = q at R1 O1
      have o1 := O1 (a + 2 * ((l + r) / 2 - l)) (by omega)
      obtain ⟨R2, O2⟩ := mj_lit_R d (a + 2 * ((l + r) / 2 - l)) ((l + r) / 2) r q.1 q.2 (by rw [o1.1]; exact fAr) (by rw [o1.2]; exact tAr) (by omega) h4 (by omega)
      have tot : mj_lit ff ft a (2 * (r - l) - 1) = mj_lit q.1 q.2 (a + 2 * ((l + r) / 2 - l)) (2 * (r - (l + r) / 2) - 1) := by
        have e3 : 2 * (r - l) - 1 = 1 + ((2 * ((l + r) / 2 - l) - 1) + (2 * (r - (l + r) / 2) - 1)) := by omega
        rw [e3, mj_lit_add, s1, mj_lit_add]
        dsimp only
        rw [hC]
        have e4 : a + 1 + (2 * ((l + r) / 2 - l) - 1) = a + 2 * ((l + r) / 2 - l) := by omega
        rw [e4]
      rw [tot]
      refine ⟨⟨?_, ?_, Or.inr ⟨by omega, ?_, R2⟩⟩, fun k hk => ?_⟩
      · rw [(O2 a (by omega)).1, (O1 a (by omega)).1, (oth a (by omega) (by omega)).1]; exact h1
      · rw [(O2 a (by omega)).2, (O1 a (by omega)).2, (oth a (by omega) (by omega)).2]; exact h2
      · exact mj_R_ag d _ _ _ R1 (fun k x y => O2 k (by omega)) (by omega)
      · have x := O2 k (by omega)
        have y := O1 k (by omega)
        have z := oth k (by omega) (by omega)
        exact ⟨x.1.trans (y.1.trans z.1), x.2.trans (y.2.trans z.2)⟩
theorem mj_R_all {ff ft : Nat → Int32} : ∀ (d a l r : Nat), mj_R ff ft d a l r → l < r → ∀ k : Nat, a ≤ k → k < a + 2 * (r - l) - 1 → ∃ e l2 r2 : Nat, mj_R ff ft e k l2 r2 ∧ l2 < r2
  | 0, a, l, r, h, hl, k, h1, h2 => by
    have e : k = a := by have := h.2.2; omega
    subst e
    exact ⟨0, l, r, h, hl⟩
  | d + 1, a, l, r, h, hl, k, h1, h2 => by
    by_cases hk : k = a
    · subst hk; exact ⟨d + 1, l, r, h, hl⟩
    · rcases h.2.2 with h3 | ⟨h3, h4, h5⟩
      · omega
      · rcases Nat.lt_or_ge k (a + 2 * ((l + r) / 2 - l)) with h9 | h9
        · exact mj_R_all d _ _ _ h4 (by omega) k (by omega) (by omega)
        · exact mj_R_all d _ _ _ h5 (by omega) k (by omega) (by omega)
theorem mj_R_cr {ff ft : Nat → Int32} {d n : Nat} {nd : Int} (h : mj_R ff ft d 0 0 n) (hn : 0 < n) (e : nd = 2 * (n : Int) - 1) : mj_cr ff ft nd := by
  intro k hk hw
  obtain ⟨e2, l2, r2, hr, hlt⟩ := mj_R_all d 0 0 n h hn k (by omega) (by omega)
  have top : ∀ (d a l r : Nat), mj_R ff ft d a l r → (ff a).toNatClampNeg = l ∧ (ft a).toNatClampNeg = r := fun d a l r h => by
    have h1 : (ff a).toInt = (l : Int) := by cases d <;> exact h.1
    have h2 : (ft a).toInt = (r : Int) := by cases d <;> exact h.2.1
    have n1 := ki_nat (ff a) rfl (by omega)
    have n2 := ki_nat (ft a) rfl (by omega)
    omega
  obtain ⟨q1, q2⟩ := top _ _ _ _ hr
  have h1 : (ff k).toInt = (l2 : Int) := by cases e2 <;> exact hr.1
  have h2 : (ft k).toInt = (r2 : Int) := by cases e2 <;> exact hr.2.1
  cases e2 with
  | zero => have := hr.2.2; omega
  | succ e2 =>
    rcases hr.2.2 with h3 | ⟨h3, h4, h5⟩
    · omega
    · have m : mj_mid ff ft k = (l2 + r2) / 2 := by unfold mj_mid; rw [q1, q2]
      rw [m, q1, q2]
      obtain ⟨a1, a2⟩ := top _ _ _ _ h4
      obtain ⟨b1, b2⟩ := top _ _ _ _ h5
      exact ⟨a1, a2, b1, b2⟩

def mj_rt (ff ft : Nat → Int32) (n : Int) : Prop := 0 < n → (ff 0).toInt = 0 ∧ (ft 0).toInt = n
/-- the class's tree is the document's -/
def mj_C (K : Nat) (f ff ft fs fo fe uv un : Nat → Int32) (nd n : Int) : Prop := 0 ≤ nd ∧ nd ≤ 319 ∧ ((n = 0 ∧ nd = 0) ∨ (0 < n ∧ nd = 2 * n - 1)) ∧ treeOk ff ft nd n ∧ mj_cr ff ft nd ∧ mj_rt ff ft n ∧ ∀ k : Nat, (k : Int) < nd → mj_ok K f ff ft fs fo fe uv un k
def laidX (old slots here : Int32) (f ff ft fs fo fe uv un : Nat → Int32) (nodes len : Int32) : Prop := old.toInt = 0 → here = slots ∧ mj_C slots.toNatClampNeg f ff ft fs fo fe uv un nodes.toInt len.toInt
/-- what is asked of the node that is a range -/
def mj_ask (ff ft g : Nat → Int32) (nd l r : Int) (x : Int32) : Prop := (∃ k : Nat, (k : Int) < nd ∧ (ff k).toInt = l ∧ (ft k).toInt = r ∧ (∀ j : Nat, j < k → ¬ ((ff j).toInt = l ∧ (ft j).toInt = r)) ∧ x = g k) ∨ ((∀ j : Nat, (j : Int) < nd → ¬ ((ff j).toInt = l ∧ (ft j).toInt = r)) ∧ x = -2)


set_option maxHeartbeats 4000000 in
set_option maxRecDepth 100000 in
theorem c_X3_add_x (l : Launch) (dC : Nat → ClassId) (dI : Nat → Nat → Nat) (h0 : Nat) (a_v : Nat) (a_n : Nat) (cyI : ClassId) (vs : Int32) (lo : Int32) (le : Int32) (fv : Nat → Int32) (fn : Nat → Int32) (p0 : Int32) (p1 : Int32) (sz : Nat) (a0 : 0 ≤ vs.toInt) (a1 : vs.toInt < 12) : Met l yX3_add wsX3_add ({ frames := 0, cells := 0, slots := 0, locals := 0 }) (va_Pc [.ref h0, .int p0, .int p1] (fun U => U.heap.size = sz ∧ va_P (dC, dI) vwCl [kx_3 h0 a_v a_n vs lo le, kx_a a_v cyI 12 fv, kx_a a_n cyI 12 fn] U.heap ∧ va_K (dC, dI) vwCl [(cyI, .int)] U ∧ va_D (fun _ => True) [kx_3 h0 a_v a_n vs lo le, kx_a a_v cyI 12 fv, kx_a a_n cyI 12 fn])) (va_Qv (fun u : Int32 × (Nat → Int32) × (Nat → Int32) => mj_addR fv fn vs.toNatClampNeg p0 p1 u.2.1 u.2.2 u.1.toNatClampNeg ∧ vs.toInt ≤ u.1.toInt ∧ u.1.toInt ≤ vs.toInt + 1) (fun (u : Int32 × (Nat → Int32) × (Nat → Int32)) (t : State) => va_P (dC, dI) vwCl [kx_3 h0 a_v a_n u.1 lo le, kx_a a_v cyI 12 u.2.1, kx_a a_n cyI 12 u.2.2] t.heap ∧ va_K (dC, dI) vwCl [(cyI, .int)] t ∧ va_D (va_A [kx_3 h0 a_v a_n vs lo le, kx_a a_v cyI 12 fv, kx_a a_n cyI 12 fn] sz) [kx_3 h0 a_v a_n u.1 lo le, kx_a a_v cyI 12 u.2.1, kx_a a_n cyI 12 u.2.2]) (va_A [kx_3 h0 a_v a_n vs lo le, kx_a a_v cyI 12 fv, kx_a a_n cyI 12 fn] sz)) 0 0 (va_A [kx_3 h0 a_v a_n vs lo le, kx_a a_v cyI 12 fv, kx_a a_n cyI 12 fn] sz) := by
  refine Met.ofW (cc := cX3_add) (maxL := 4) (ret := none) (by decide) rfl ?_
  intro p e s m args below meth c s₁ B hml hv
  obtain ⟨rfl, hsz, hP, hK, hD0⟩ := hv
  have hx := B.exec
  have hb := B.bytes
  have hr := B.returns
  have hts := atoms_spec (ws := wsX3_add) B.pre
  have hown : s.vm.findClass RX3 = some m.cls := findClass_of_methodNamed B.named
  have hlocks := B.notSynchronized
  subst hsz
  have hD := hD0.self (sz := s.heap.size)
  generalize hAe : va_A [kx_3 h0 a_v a_n vs lo le, kx_a a_v cyI 12 fv, kx_a a_n cyI 12 fn] s.heap.size = A at hD ⊢
  have hA : ∀ q : Nat, s.heap.size ≤ q → A q := fun q h => by rw [← hAe]; exact Or.inr h
  have hS : va_S A s.heap s.heap [] := va_S.rf
  have hP : va_P (dC, dI) vwCl [kx_3 h0 a_v a_n vs lo le, kx_a a_v cyI 12 fv, kx_a a_n cyI 12 fn] s.heap := hP
  have hl := lv_entry ([.ref h0, .int p0, .int p1]) (n := 4) (Nat.le_of_ble_eq_true rfl)
  rw [lg_entry_eq]
  generalize (lg_sl ([.ref h0, .int p0, .int p1]) ++ List.replicate (4 - (lg_sl ([.ref h0, .int p0, .int p1])).length) Slot.unset).toArray = ls at hl ⊢
  have hl : lv_has ls 4 [(0, .ref h0), (1, .int p0), (2, .int p1)] := hl
  have hf_18 := hts (.fieldLink RX3 18 "MajorityIndex$Votes" "size" "I") (List.mem_of_getElem? (i := 1) rfl)
  have hi_3 : ∀ w ∈ u_ws RX3 TX3 5, w ∈ wsX3_add := fun w h => List.mem_cons_of_mem _ (List.mem_append_right _ h)
  have hf_9 := hts (.fieldLink RX3 9 "MajorityIndex$Votes" "value" "[I") (List.mem_of_getElem? (i := 2) rfl)
  have hf_15 := hts (.fieldLink RX3 15 "MajorityIndex$Votes" "number" "[I") (List.mem_of_getElem? (i := 3) rfl)
  refine lv_iconst (v := 0) hx hb dX3_add_0 (by decide) ?_
  refine lv_istore_n (lv' := [(3, .int 0), (0, .ref h0), (1, .int p0), (2, .int p1)]) hx hb dX3_add_1 rfl hl (by decide) rfl (fun ls hl => ?_)
  have LP1 : ∀ (n : Nat) (i : Int32), (0 ≤ i.toInt) → (∀ k : Nat, k < i.toNatClampNeg → ¬ fv k = p0) → (vs.toInt - i.toInt).toNat < n → ∀ (H : Heap) (locs : List Loc), va_P (dC, dI) vwCl [kx_3 h0 a_v a_n vs lo le, kx_a a_v cyI 12 fv, kx_a a_n cyI 12 fn] H → va_D A [kx_3 h0 a_v a_n vs lo le, kx_a a_v cyI 12 fv, kx_a a_n cyI 12 fn] → va_S A s.heap H locs → ∀ (ls : Array Slot), lv_has ls 4 [(3, .int i), (0, .ref h0), (1, .int p0), (2, .int p1)] → W p l e (headSpec wsX3_add ({ frames := 0, cells := 0, slots := 0, locals := 0 })).room s m ([.ref h0, .int p0, .int p1] : List Value).toArray below meth c H locs 0 0 (MQ below (va_Qv (fun u : Int32 × (Nat → Int32) × (Nat → Int32) => mj_addR fv fn vs.toNatClampNeg p0 p1 u.2.1 u.2.2 u.1.toNatClampNeg ∧ vs.toInt ≤ u.1.toInt ∧ u.1.toInt ≤ vs.toInt + 1) (fun (u : Int32 × (Nat → Int32) × (Nat → Int32)) (t : State) => va_P (dC, dI) vwCl [kx_3 h0 a_v a_n u.1 lo le, kx_a a_v cyI 12 u.2.1, kx_a a_n cyI 12 u.2.2] t.heap ∧ va_K (dC, dI) vwCl [(cyI, .int)] t ∧ va_D A [kx_3 h0 a_v a_n u.1 lo le, kx_a a_v cyI 12 u.2.1, kx_a a_n cyI 12 u.2.2]) A) ([.ref h0, .int p0, .int p1] : List Value).toArray s 0 0 A) (F0 m 2 ls []) := by
    intro n
    induction n with
    | zero => intro i LP1_h0 LP1_h1 hn; exact absurd hn (Nat.not_lt_zero _)
    | succ n ih1 =>
      intro i LP1_h0 LP1_h1 hn1 H locs hP hD hS ls hl
      have n_i := ki_nat i rfl (om_8 LP1_h0)
      refine lv_iload_n hx hb dX3_add_2 rfl (lv_at hl 0 rfl) ?_
      refine lv_aload_n hx hb dX3_add_3 rfl (lv_at hl 1 rfl) ?_
      refine va_get (D := (dC, dI)) (ci := 3) (v := .int vs) (C := RX3) (T := TX3) (N := 5) hx hb hts hi_3 hown hK hP 0 rfl rfl 2 (by decide) hf_18 (fun _ h9 => h9) rfl dX3_add_4 ?_
      refine lv_icmp_ge (tgt := 37) hx hb dX3_add_7 (by decide) (fun c_1 => ?_) (fun c_1 => ?_)
      · have i_1 : vs.toInt ≤ i.toInt := kc_le c_1
        refine lv_aload_n hx hb dX3_add_37 rfl (lv_at hl 1 rfl) ?_
        refine va_get (D := (dC, dI)) (ci := 3) (v := .int vs) (C := RX3) (T := TX3) (N := 5) hx hb hts hi_3 hown hK hP 0 rfl rfl 2 (by decide) hf_18 (fun _ h9 => h9) rfl dX3_add_38 ?_
        refine lv_aload_n hx hb dX3_add_41 rfl (lv_at hl 1 rfl) ?_
        refine va_get (D := (dC, dI)) (ci := 3) (v := .ref a_v) (C := RX3) (T := TX3) (N := 5) hx hb hts hi_3 hown hK hP 0 rfl rfl 0 (by decide) hf_9 (fun _ h9 => h9) rfl dX3_add_42 ?_
        refine va_alen (v := 12) hx hb hK hP 1 0 rfl rfl rfl dX3_add_45 ?_
        refine lv_icmp_ge (tgt := 79) hx hb dX3_add_46 (by decide) (fun c_2 => ?_) (fun c_2 => ?_)
        · have i_2 : 12 ≤ vs.toInt := kc_le c_2
          exfalso; omega
        · have i_2 : vs.toInt < 12 := kc_nle c_2
          refine lv_aload_n hx hb dX3_add_49 rfl (lv_at hl 1 rfl) ?_
          refine va_get (D := (dC, dI)) (ci := 3) (v := .ref a_v) (C := RX3) (T := TX3) (N := 5) hx hb hts hi_3 hown hK hP 0 rfl rfl 0 (by decide) hf_9 (fun _ h9 => h9) rfl dX3_add_50 ?_
          refine lv_aload_n hx hb dX3_add_53 rfl (lv_at hl 1 rfl) ?_
          refine va_get (D := (dC, dI)) (ci := 3) (v := .int vs) (C := RX3) (T := TX3) (N := 5) hx hb hts hi_3 hown hK hP 0 rfl rfl 2 (by decide) hf_18 (fun _ h9 => h9) rfl dX3_add_54 ?_
          refine lv_iload_n hx hb dX3_add_57 rfl (lv_at hl 2 rfl) ?_
          refine va_iast hx hb hK hP hD hS 1 0 rfl rfl (ki_in (om_8 a0) (om_27 a1)) dX3_add_58 (fun H locs hP hD hS => ?_)
          obtain ⟨hP, hD⟩ := kx_re (w2 := [kx_3 h0 a_v a_n vs lo le, kx_a a_v cyI 12 (upd fv vs.toNatClampNeg p0), kx_a a_n cyI 12 fn]) hP hD rfl
          refine lv_aload_n hx hb dX3_add_59 rfl (lv_at hl 1 rfl) ?_
          refine va_get (D := (dC, dI)) (ci := 3) (v := .ref a_n) (C := RX3) (T := TX3) (N := 5) hx hb hts hi_3 hown hK hP 0 rfl rfl 1 (by decide) hf_15 (fun _ h9 => h9) rfl dX3_add_60 ?_
          refine lv_aload_n hx hb dX3_add_63 rfl (lv_at hl 1 rfl) ?_
          refine va_get (D := (dC, dI)) (ci := 3) (v := .int vs) (C := RX3) (T := TX3) (N := 5) hx hb hts hi_3 hown hK hP 0 rfl rfl 2 (by decide) hf_18 (fun _ h9 => h9) rfl dX3_add_64 ?_
          refine lv_iload_n hx hb dX3_add_67 rfl (lv_at hl 3 rfl) ?_
          refine va_iast hx hb hK hP hD hS 2 0 rfl rfl (ki_in (om_8 a0) (om_27 a1)) dX3_add_68 (fun H locs hP hD hS => ?_)
          obtain ⟨hP, hD⟩ := kx_re (w2 := [kx_3 h0 a_v a_n vs lo le, kx_a a_v cyI 12 (upd fv vs.toNatClampNeg p0), kx_a a_n cyI 12 (upd fn vs.toNatClampNeg p1)]) hP hD rfl
          refine lv_aload_n hx hb dX3_add_69 rfl (lv_at hl 1 rfl) ?_
          refine lv_dup hx hb dX3_add_70 rfl ?_
          refine va_get (D := (dC, dI)) (ci := 3) (v := .int vs) (C := RX3) (T := TX3) (N := 5) hx hb hts hi_3 hown hK hP 0 rfl rfl 2 (by decide) hf_18 (fun _ h9 => h9) rfl dX3_add_71 ?_
          refine lv_iconst (v := 1) hx hb dX3_add_74 (by decide) ?_
          refine lv_iadd hx hb dX3_add_75 ?_
          refine lv_topi (fun y_3 ey_3 => ?_)
          have i_3 : y_3.toInt = vs.toInt + 1 := ki_add ey_3 rfl rfl (om_10 a0) (om_205 a1)
          refine va_put (D := (dC, dI)) (ci := 3) (v := .int y_3) (ty := .int) (C := RX3) (T := TX3) (N := 5) hx hb hts hi_3 tyX3 tyX3_ok nmX3 hown hK hP hD hS 0 rfl rfl 2 (by decide) hf_18 (fun _ h9 => h9) rfl (by decide +kernel) rfl rfl (Nat.le_of_ble_eq_true rfl) dX3_add_76 (fun H locs hP hD hS => ?_)
          obtain ⟨hP, hD⟩ := kx_re (w2 := [kx_3 h0 a_v a_n y_3 lo le, kx_a a_v cyI 12 (upd fv vs.toNatClampNeg p0), kx_a a_n cyI 12 (upd fn vs.toNatClampNeg p1)]) hP hD rfl
          have hP9 := hP
          have hD9 := hD
          have hK9 := hK
          have n_vs := ki_nat vs rfl (om_8 a0)
          have n_4 := ki_nat y_3 rfl (om_31 a0 i_3)
          exact W.vret hx hb hr (fun t ht hW => ⟨⟨(y_3, (upd fv vs.toNatClampNeg p0), (upd fn vs.toNatClampNeg p1)), rfl, ⟨Or.inr ⟨(fun k hk => LP1_h1 k (by omega)), rfl, rfl, (by (try dsimp only); omega)⟩, (by (try dsimp only); omega), (by (try dsimp only); omega)⟩, by rw [ht]; exact hP9, va_K.moved hW.alike hK9, hD9⟩, hS.F ht⟩) hS.2.2 dX3_add_79
      · have i_1 : i.toInt < vs.toInt := kc_nle c_1
        refine lv_aload_n hx hb dX3_add_10 rfl (lv_at hl 1 rfl) ?_
        refine va_get (D := (dC, dI)) (ci := 3) (v := .ref a_v) (C := RX3) (T := TX3) (N := 5) hx hb hts hi_3 hown hK hP 0 rfl rfl 0 (by decide) hf_9 (fun _ h9 => h9) rfl dX3_add_11 ?_
        refine lv_iload_n hx hb dX3_add_14 rfl (lv_at hl 0 rfl) ?_
        refine va_iald hx hb hK hP 1 0 rfl rfl (ki_in (om_8 LP1_h0) (om_206 a1 i_1)) dX3_add_15 ?_
        refine lv_topi (fun y_5 ey_5 => ?_)
        have j_5 : y_5.toInt = (fv i.toNatClampNeg).toInt := congrArg Int32.toInt ey_5
        refine lv_iload_n hx hb dX3_add_16 rfl (lv_at hl 2 rfl) ?_
        refine lv_icmp_ne (tgt := 31) hx hb dX3_add_17 (by decide) (fun c_6 => ?_) (fun c_6 => ?_)
        · have i_6 : ¬ y_5.toInt = p0.toInt := kc_ne c_6
          obtain ⟨x_7, ex_7⟩ : ∃ y : Int32, y = i + 1 := ⟨_, rfl⟩
          have i_7 : x_7.toInt = i.toInt + 1 := ki_add ex_7 rfl rfl (om_10 LP1_h0) (om_207 a1 i_1)
          refine lv_iinc (v := x_7) (lv' := [(3, .int x_7), (0, .ref h0), (1, .int p0), (2, .int p1)]) hx hb dX3_add_31 hl (k := 0) rfl (by rw [ex_7]; rfl) (by decide) rfl (fun ls hl => ?_)
          refine lv_goto (tgt := 2) hx hb dX3_add_34 (by decide) ?_
          have n_8 := ki_nat x_7 rfl (om_31 LP1_h0 i_7)
          exact ih1 x_7 (om_31 LP1_h0 i_7) (fun k hk => if h9 : k < i.toNatClampNeg then LP1_h1 k h9 else (by rw [show k = i.toNatClampNeg by omega]; exact fun h => c_6 (ey_5.trans h))) (om_mu hn1 (om_5 i_7) (om_6 i_1)) _ _ hP hD hS ls (lv_sub hl [0, 1, 2, 3] rfl)
        · have i_6 : y_5.toInt = p0.toInt := kc_eq c_6
          refine lv_aload_n hx hb dX3_add_20 rfl (lv_at hl 1 rfl) ?_
          refine va_get (D := (dC, dI)) (ci := 3) (v := .ref a_n) (C := RX3) (T := TX3) (N := 5) hx hb hts hi_3 hown hK hP 0 rfl rfl 1 (by decide) hf_15 (fun _ h9 => h9) rfl dX3_add_21 ?_
          refine lv_iload_n hx hb dX3_add_24 rfl (lv_at hl 0 rfl) ?_
          refine lv_dup2_11 hx hb dX3_add_25 rfl rfl ?_
          refine va_iald hx hb hK hP 2 0 rfl rfl (ki_in (om_8 LP1_h0) (om_206 a1 i_1)) dX3_add_26 ?_
          refine lv_topi (fun y_9 ey_9 => ?_)
          have j_9 : y_9.toInt = (fn i.toNatClampNeg).toInt := congrArg Int32.toInt ey_9
          refine lv_iload_n hx hb dX3_add_27 rfl (lv_at hl 3 rfl) ?_
          refine lv_iadd hx hb dX3_add_28 ?_
          refine lv_topi (fun y_10 ey_10 => ?_)
          refine va_iast hx hb hK hP hD hS 2 0 rfl rfl (ki_in (om_8 LP1_h0) (om_206 a1 i_1)) dX3_add_29 (fun H locs hP hD hS => ?_)
          obtain ⟨hP, hD⟩ := kx_re (w2 := [kx_3 h0 a_v a_n vs lo le, kx_a a_v cyI 12 fv, kx_a a_n cyI 12 (upd fn i.toNatClampNeg y_10)]) hP hD rfl
          have hP9 := hP
          have hD9 := hD
          have hK9 := hK
          have n_vs := ki_nat vs rfl (om_8 a0)
          exact W.vret hx hb hr (fun t ht hW => ⟨⟨(vs, fv, (upd fn i.toNatClampNeg y_10)), rfl, ⟨Or.inl ⟨i.toNatClampNeg, (by (try dsimp only); omega), (ey_5.symm.trans c_6), rfl, (by (try dsimp only); rw [ey_10, ey_9]), rfl⟩, (by (try dsimp only); omega), (by (try dsimp only); omega)⟩, by rw [ht]; exact hP9, va_K.moved hW.alike hK9, hD9⟩, hS.F ht⟩) hS.2.2 dX3_add_30
  have k_11 : (0 : Int32).toInt = 0 := rfl
  exact LP1 ((vs.toInt - 0 : Int).toNat + 1) 0 om_32 (fun k hk => absurd hk (Nat.not_lt_zero k)) (Nat.lt_succ_self _) _ _ hP hD hS ls (lv_sub hl [0, 1, 2, 3] rfl)

set_option maxHeartbeats 4000000 in
set_option maxRecDepth 100000 in
theorem c_X3_order_x (l : Launch) (dC : Nat → ClassId) (dI : Nat → Nat → Nat) (h0 : Nat) (a_v : Nat) (a_n : Nat) (cyI : ClassId) (vs : Int32) (lo : Int32) (le : Int32) (fv : Nat → Int32) (fn : Nat → Int32) (sz : Nat) (a0 : 0 ≤ vs.toInt) (a1 : vs.toInt ≤ 12) : Met l yX3_order wsX3_order ({ frames := 1, cells := 0, slots := 0, locals := 45 }) (va_Pc [.ref h0] (fun U => U.heap.size = sz ∧ va_P (dC, dI) vwCl [kx_3 h0 a_v a_n vs lo le, kx_a a_v cyI 12 fv, kx_a a_n cyI 12 fn] U.heap ∧ va_K (dC, dI) vwCl [(cyI, .int)] U ∧ va_D (fun _ => True) [kx_3 h0 a_v a_n vs lo le, kx_a a_v cyI 12 fv, kx_a a_n cyI 12 fn])) (va_Qv (fun u : (Nat → Int32) × (Nat → Int32) => mj_srt u.1 u.2 0 vs.toNatClampNeg ∧ ∀ mu : Int32 → Int, mj_vs fv fn 0 vs.toNatClampNeg mu → mj_vs u.1 u.2 0 vs.toNatClampNeg mu) (fun (u : (Nat → Int32) × (Nat → Int32)) (t : State) => va_P (dC, dI) vwCl [kx_3 h0 a_v a_n vs lo le, kx_a a_v cyI 12 u.1, kx_a a_n cyI 12 u.2] t.heap ∧ va_K (dC, dI) vwCl [(cyI, .int)] t ∧ va_D (va_A [kx_3 h0 a_v a_n vs lo le, kx_a a_v cyI 12 fv, kx_a a_n cyI 12 fn] sz) [kx_3 h0 a_v a_n vs lo le, kx_a a_v cyI 12 u.1, kx_a a_n cyI 12 u.2]) (va_A [kx_3 h0 a_v a_n vs lo le, kx_a a_v cyI 12 fv, kx_a a_n cyI 12 fn] sz)) 0 0 (va_A [kx_3 h0 a_v a_n vs lo le, kx_a a_v cyI 12 fv, kx_a a_n cyI 12 fn] sz) := by
  refine Met.ofW (cc := cX3_order) (maxL := 3) (ret := none) (by decide) rfl ?_
  intro p e s m args below meth c s₁ B hml hv
  obtain ⟨rfl, hsz, hP, hK, hD0⟩ := hv
  have hx := B.exec
  have hb := B.bytes
  have hr := B.returns
  have hts := atoms_spec (ws := wsX3_order) B.pre
  have hown : s.vm.findClass RX3 = some m.cls := findClass_of_methodNamed B.named
  have hlocks := B.notSynchronized
  subst hsz
  have hD := hD0.self (sz := s.heap.size)
  generalize hAe : va_A [kx_3 h0 a_v a_n vs lo le, kx_a a_v cyI 12 fv, kx_a a_n cyI 12 fn] s.heap.size = A at hD ⊢
  have hA : ∀ q : Nat, s.heap.size ≤ q → A q := fun q h => by rw [← hAe]; exact Or.inr h
  have hS : va_S A s.heap s.heap [] := va_S.rf
  have hP : va_P (dC, dI) vwCl [kx_3 h0 a_v a_n vs lo le, kx_a a_v cyI 12 fv, kx_a a_n cyI 12 fn] s.heap := hP
  have hl := lv_entry ([.ref h0]) (n := 3) (Nat.le_of_ble_eq_true rfl)
  rw [lg_entry_eq]
  generalize (lg_sl ([.ref h0]) ++ List.replicate (3 - (lg_sl ([.ref h0])).length) Slot.unset).toArray = ls at hl ⊢
  have hl : lv_has ls 3 [(0, .ref h0)] := hl
  have hf_18 := hts (.fieldLink RX3 18 "MajorityIndex$Votes" "size" "I") (List.mem_of_getElem? (i := 1) rfl)
  have hi_3 : ∀ w ∈ u_ws RX3 TX3 5, w ∈ wsX3_order := fun w h => List.mem_cons_of_mem _ (List.mem_append_right _ h)
  have n_vs := ki_nat vs rfl (om_8 a0)
  refine lv_iconst (v := 1) hx hb dX3_order_0 (by decide) ?_
  refine lv_istore_n (lv' := [(1, .int 1), (0, .ref h0)]) hx hb dX3_order_1 rfl hl (by decide) rfl (fun ls hl => ?_)
  have LP1 : ∀ (n : Nat) (i : Int32) (gv : Nat → Int32) (gn : Nat → Int32), (1 ≤ i.toInt) → (i.toInt ≤ 13) → (mj_srt gv gn 0 i.toNatClampNeg) → (∀ mu : Int32 → Int, mj_vs fv fn 0 vs.toNatClampNeg mu → mj_vs gv gn 0 vs.toNatClampNeg mu) → (vs.toInt - i.toInt).toNat < n → ∀ (H : Heap) (locs : List Loc), va_P (dC, dI) vwCl [kx_3 h0 a_v a_n vs lo le, kx_a a_v cyI 12 gv, kx_a a_n cyI 12 gn] H → va_D A [kx_3 h0 a_v a_n vs lo le, kx_a a_v cyI 12 gv, kx_a a_n cyI 12 gn] → va_S A s.heap H locs → ∀ (ls : Array Slot), lv_has ls 3 [(1, .int i), (0, .ref h0)] → W p l e (headSpec wsX3_order ({ frames := 1, cells := 0, slots := 0, locals := 45 })).room s m ([.ref h0] : List Value).toArray below meth c H locs 0 0 (MQ below (va_Qv (fun u : (Nat → Int32) × (Nat → Int32) => mj_srt u.1 u.2 0 vs.toNatClampNeg ∧ ∀ mu : Int32 → Int, mj_vs fv fn 0 vs.toNatClampNeg mu → mj_vs u.1 u.2 0 vs.toNatClampNeg mu) (fun (u : (Nat → Int32) × (Nat → Int32)) (t : State) => va_P (dC, dI) vwCl [kx_3 h0 a_v a_n vs lo le, kx_a a_v cyI 12 u.1, kx_a a_n cyI 12 u.2] t.heap ∧ va_K (dC, dI) vwCl [(cyI, .int)] t ∧ va_D A [kx_3 h0 a_v a_n vs lo le, kx_a a_v cyI 12 u.1, kx_a a_n cyI 12 u.2]) A) ([.ref h0] : List Value).toArray s 0 0 A) (F0 m 2 ls []) := by
    intro n
    induction n with
    | zero => intro i gv gn LP1_h0 LP1_h1 LP1_h2 LP1_h3 hn; exact absurd hn (Nat.not_lt_zero _)
    | succ n ih1 =>
      intro i gv gn LP1_h0 LP1_h1 LP1_h2 LP1_h3 hn1 H locs hP hD hS ls hl
      have n_i := ki_nat i rfl (om_44 LP1_h0)
      refine lv_iload_n hx hb dX3_order_2 rfl (lv_at hl 0 rfl) ?_
      refine lv_aload_n hx hb dX3_order_3 rfl (lv_at hl 1 rfl) ?_
      refine va_get (D := (dC, dI)) (ci := 3) (v := .int vs) (C := RX3) (T := TX3) (N := 5) hx hb hts hi_3 hown hK hP 0 rfl rfl 2 (by decide) hf_18 (fun _ h9 => h9) rfl dX3_order_4 ?_
      refine lv_icmp_ge (tgt := 47) hx hb dX3_order_7 (by decide) (fun c_1 => ?_) (fun c_1 => ?_)
      · have i_1 : vs.toInt ≤ i.toInt := kc_le c_1
        have hP9 := hP
        have hD9 := hD
        have hK9 := hK
        exact W.vret hx hb hr (fun t ht hW => ⟨⟨(gv, gn), rfl, ⟨(fun x y h1 h2 => LP1_h2 x y h1 (by (try dsimp only); omega)), LP1_h3⟩, by rw [ht]; exact hP9, va_K.moved hW.alike hK9, hD9⟩, hS.F ht⟩) hS.2.2 dX3_order_47
      · have i_1 : i.toInt < vs.toInt := kc_nle c_1
        refine lv_iload_n hx hb dX3_order_10 rfl (lv_at hl 0 rfl) ?_
        refine lv_istore_n (lv' := [(2, .int i), (1, .int i), (0, .ref h0)]) hx hb dX3_order_11 rfl hl (by decide) rfl (fun ls hl => ?_)
        have LP2 : ∀ (n : Nat) (j : Int32) (kv : Nat → Int32) (kn : Nat → Int32), (0 ≤ j.toInt) → (j.toInt ≤ i.toInt) → (mj_in kv kn i.toNatClampNeg j.toNatClampNeg) → (∀ mu : Int32 → Int, mj_vs fv fn 0 vs.toNatClampNeg mu → mj_vs kv kn 0 vs.toNatClampNeg mu) → (j.toInt).toNat < n → ∀ (H : Heap) (locs : List Loc), va_P (dC, dI) vwCl [kx_3 h0 a_v a_n vs lo le, kx_a a_v cyI 12 kv, kx_a a_n cyI 12 kn] H → va_D A [kx_3 h0 a_v a_n vs lo le, kx_a a_v cyI 12 kv, kx_a a_n cyI 12 kn] → va_S A s.heap H locs → ∀ (ls : Array Slot), lv_has ls 3 [(2, .int j), (1, .int i), (0, .ref h0)] → W p l e (headSpec wsX3_order ({ frames := 1, cells := 0, slots := 0, locals := 45 })).room s m ([.ref h0] : List Value).toArray below meth c H locs 0 0 (MQ below (va_Qv (fun u : (Nat → Int32) × (Nat → Int32) => mj_srt u.1 u.2 0 vs.toNatClampNeg ∧ ∀ mu : Int32 → Int, mj_vs fv fn 0 vs.toNatClampNeg mu → mj_vs u.1 u.2 0 vs.toNatClampNeg mu) (fun (u : (Nat → Int32) × (Nat → Int32)) (t : State) => va_P (dC, dI) vwCl [kx_3 h0 a_v a_n vs lo le, kx_a a_v cyI 12 u.1, kx_a a_n cyI 12 u.2] t.heap ∧ va_K (dC, dI) vwCl [(cyI, .int)] t ∧ va_D A [kx_3 h0 a_v a_n vs lo le, kx_a a_v cyI 12 u.1, kx_a a_n cyI 12 u.2]) A) ([.ref h0] : List Value).toArray s 0 0 A) (F0 m 12 ls []) := by
          intro n
          induction n with
          | zero => intro j kv kn LP2_h0 LP2_h1 LP2_h2 LP2_h3 hn; exact absurd hn (Nat.not_lt_zero _)
          | succ n ih2 =>
            intro j kv kn LP2_h0 LP2_h1 LP2_h2 LP2_h3 hn2 H locs hP hD hS ls hl
            have n_j := ki_nat j rfl (om_8 LP2_h0)
            refine lv_iload_n hx hb dX3_order_12 rfl (lv_at hl 0 rfl) ?_
            refine lv_if_le (tgt := 41) hx hb dX3_order_13 (by decide) (fun c_2 => ?_) (fun c_2 => ?_)
            · have i_2 : j.toInt ≤ 0 := kc_le c_2
              obtain ⟨x_3, ex_3⟩ : ∃ y : Int32, y = i + 1 := ⟨_, rfl⟩
              have i_3 : x_3.toInt = i.toInt + 1 := ki_add ex_3 rfl rfl (om_33 LP1_h0) (om_260 LP1_h1)
              refine lv_iinc (v := x_3) (lv' := [(1, .int x_3), (2, .int j), (0, .ref h0)]) hx hb dX3_order_41 hl (k := 1) rfl (by rw [ex_3]; rfl) (by decide) rfl (fun ls hl => ?_)
              refine lv_goto (tgt := 2) hx hb dX3_order_44 (by decide) ?_
              have n_4 := ki_nat x_3 rfl (om_329 LP1_h0 i_3)
              exact ih1 x_3 kv kn (om_34 LP1_h0 i_3) (om_262 a1 LP1_h1 i_1 i_3) (mj_in_end LP2_h2 (by omega) (Or.inl (by omega)) (by omega)) LP2_h3 (om_mu hn1 (om_5 i_3) (om_6 i_1)) _ _ hP hD hS ls (lv_sub hl [0, 2] rfl)
            · have i_2 : 0 < j.toInt := kc_nle c_2
              refine lv_aload_n hx hb dX3_order_16 rfl (lv_at hl 2 rfl) ?_
              refine lv_iload_n hx hb dX3_order_17 rfl (lv_at hl 0 rfl) ?_
              refine lv_iload_n hx hb dX3_order_18 rfl (lv_at hl 0 rfl) ?_
              refine lv_iconst (v := 1) hx hb dX3_order_19 (by decide) ?_
              refine lv_isub hx hb dX3_order_20 ?_
              refine lv_topi (fun y_5 ey_5 => ?_)
              have i_5 : y_5.toInt = j.toInt - 1 := ki_sub ey_5 rfl rfl (om_35 i_2) (om_448 LP1_h1 LP2_h1)
              have hPc := hP
              have hKc := hK
              refine vp_callSi (W.runV (As := [.int j, .int y_5]) (rest := []) ⟨hx, hb, hml, hown, hts⟩ (c_X3_isAhead l dC dI h0 a_v a_n cyI vs lo le kv kn j y_5 LP2_h0 (om_37 a1 i_1 LP2_h1) (om_38 i_2 i_5) (om_449 a1 LP1_h1 i_1 LP2_h1 i_5)) (cwV 2 hts gX3_order_X3_isAhead rfl rfl rfl (by decide +kernel) ⟨Nat.le_of_ble_eq_true rfl, Nat.le_of_ble_eq_true rfl⟩) ⟨fun a U g mk q => by obtain ⟨q0, qP, qK⟩ := q; exact ⟨q0, qP, va_K.moved (u := U) (U := U.calling g mk a) (Vm.Alike.refl U.vm) qK⟩, va_recv hKc hPc (ci := 3) (q0 := 0) rfl rfl, fun U hU hW => ⟨rfl, by rw [hU]; exact hPc, va_K.moved hW.alike hKc⟩⟩ rfl rfl hl.1 rfl (lv_room (Nat.le_of_ble_eq_true rfl)) dX3_order_21 ⟨Nat.le_of_ble_eq_true rfl, Nat.le_of_ble_eq_true rfl⟩) (fun r_6 w_6 => ?_)
              rcases w_6 with ⟨rfl, w_6⟩ | ⟨rfl, w_6⟩
              · have w_6 : ((kn y_5.toNatClampNeg).toInt < (kn j.toNatClampNeg).toInt ∨ ((kn j.toNatClampNeg).toInt = (kn y_5.toNatClampNeg).toInt ∧ (kv j.toNatClampNeg).toInt < (kv y_5.toNatClampNeg).toInt)) := w_6
                refine lv_if_eq (tgt := 41) hx hb dX3_order_24 (by decide) (fun c_7 => ?_) (fun c_7 => ?_)
                · exact absurd c_7 (by decide)
                · refine lv_aload_n hx hb dX3_order_27 rfl (lv_at hl 2 rfl) ?_
                  refine lv_iload_n hx hb dX3_order_28 rfl (lv_at hl 0 rfl) ?_
                  refine lv_iload_n hx hb dX3_order_29 rfl (lv_at hl 0 rfl) ?_
                  refine lv_iconst (v := 1) hx hb dX3_order_30 (by decide) ?_
                  refine lv_isub hx hb dX3_order_31 ?_
                  refine lv_topi (fun y_8 ey_8 => ?_)
                  have i_8 : y_8.toInt = j.toInt - 1 := ki_sub ey_8 rfl rfl (om_35 i_2) (om_448 LP1_h1 LP2_h1)
                  have hPc := hP
                  have hKc := hK
                  have hDc := hD
                  have hFc := kx_free hD hS hA
                  refine va_callv (va_runV (As := [.int j, .int y_8]) (rest := []) ⟨hx, hb, hml, hown, hts⟩ (c_X3_exchange l dC dI h0 a_v a_n cyI vs lo le kv kn j y_8 H.size LP2_h0 (om_37 a1 i_1 LP2_h1) (om_38 i_2 i_8) (om_449 a1 LP1_h1 i_1 LP2_h1 i_8)) (cwV 2 hts gX3_order_X3_exchange rfl rfl rfl (by decide +kernel) ⟨Nat.le_of_ble_eq_true rfl, Nat.le_of_ble_eq_true rfl⟩) ⟨fun a U g mk q => by obtain ⟨q0, q1, qP, qK, qD⟩ := q; exact ⟨q0, q1, qP, va_K.moved (u := U) (U := U.calling g mk a) (Vm.Alike.refl U.vm) qK, qD⟩, va_recv hKc hPc (ci := 3) (q0 := 0) rfl rfl, fun U hU hW => ⟨rfl, by rw [hU], by rw [hU]; exact hPc, va_K.moved hW.alike hKc, hDc.weaken (fun _ _ _ _ => trivial)⟩⟩ rfl rfl hl.1 rfl (lv_room (Nat.le_of_ble_eq_true rfl)) dX3_order_32 ⟨Nat.le_of_ble_eq_true rfl, Nat.le_of_ble_eq_true rfl⟩) hS (fun q _ h => hFc q h) hFc (fun u t H1 locs ht hvm w_9 hB hz1 hk1 hS => ?_)
                  obtain ⟨o_10, o_11⟩ := u
                  dsimp only at w_9 hB
                  obtain ⟨hP1, hK1, hD1⟩ := hB
                  rw [ht] at hP1
                  have hK1 := va_K.moved hvm.symm hK1
                  have hD := hD1.weaken (fun _ q _ h => hFc q.1 h)
                  have hP := hP1
                  clear hP1 hD1 hK1 hk1 hz1 hFc hDc hPc hKc
                  generalize H1 = H at hP hS ⊢
                  have w_9 : o_10 = upd (upd kv j.toNatClampNeg (kv y_8.toNatClampNeg)) y_8.toNatClampNeg (kv j.toNatClampNeg) ∧ o_11 = upd (upd kn j.toNatClampNeg (kn y_8.toNatClampNeg)) y_8.toNatClampNeg (kn j.toNatClampNeg) := w_9
                  obtain ⟨x_12, ex_12⟩ : ∃ y : Int32, y = j + (-1) := ⟨_, rfl⟩
                  have i_12 : x_12.toInt = j.toInt + (-1) := ki_add ex_12 rfl rfl (om_40 i_2) (om_450 LP1_h1 LP2_h1)
                  refine lv_iinc (v := x_12) (lv' := [(2, .int x_12), (1, .int i), (0, .ref h0)]) hx hb dX3_order_35 hl (k := 0) rfl (by rw [ex_12]; rfl) (by decide) rfl (fun ls hl => ?_)
                  refine lv_goto (tgt := 12) hx hb dX3_order_38 (by decide) ?_
                  have n_13 := ki_nat x_12 rfl (om_42 i_2 i_12)
                  have n_14 := ki_nat y_5 rfl (om_38 i_2 i_5)
                  have n_15 := ki_nat y_8 rfl (om_38 i_2 i_8)
                  have q_1 : y_8.toNatClampNeg = x_12.toNatClampNeg := by omega
                  have q_2 : y_5.toNatClampNeg = x_12.toNatClampNeg := by omega
                  have l_1 : mj_lea kv kn j.toNatClampNeg x_12.toNatClampNeg := by rw [← q_2]; unfold mj_lea; omega
                  exact ih2 x_12 o_10 o_11 (om_42 i_2 i_12) (om_23 LP2_h1 i_12) (by rw [w_9.1, w_9.2, q_1]; exact (show mj_in (mj_ex kv j.toNatClampNeg x_12.toNatClampNeg) (mj_ex kn j.toNatClampNeg x_12.toNatClampNeg) i.toNatClampNeg x_12.toNatClampNeg from mj_in_swap LP2_h2 (by omega) (by omega) l_1)) (fun mu h => (by rw [w_9.1, w_9.2, q_1]; exact (show mj_vs (mj_ex kv j.toNatClampNeg x_12.toNatClampNeg) (mj_ex kn j.toNatClampNeg x_12.toNatClampNeg) 0 vs.toNatClampNeg mu from mj_vs_ex (by omega) (by omega) (LP2_h3 mu h)))) (om_mu hn2 (om_24 i_12) (om_43 i_2)) _ _ hP hD hS ls (lv_sub hl [0, 1, 2] rfl)
              · have w_6 : ((kn j.toNatClampNeg).toInt < (kn y_5.toNatClampNeg).toInt ∨ ((kn j.toNatClampNeg).toInt = (kn y_5.toNatClampNeg).toInt ∧ (kv y_5.toNatClampNeg).toInt ≤ (kv j.toNatClampNeg).toInt)) := w_6
                refine lv_if_eq (tgt := 41) hx hb dX3_order_24 (by decide) (fun c_16 => ?_) (fun c_16 => ?_)
                · obtain ⟨x_17, ex_17⟩ : ∃ y : Int32, y = i + 1 := ⟨_, rfl⟩
                  have i_17 : x_17.toInt = i.toInt + 1 := ki_add ex_17 rfl rfl (om_33 LP1_h0) (om_260 LP1_h1)
                  refine lv_iinc (v := x_17) (lv' := [(1, .int x_17), (2, .int j), (0, .ref h0)]) hx hb dX3_order_41 hl (k := 1) rfl (by rw [ex_17]; rfl) (by decide) rfl (fun ls hl => ?_)
                  refine lv_goto (tgt := 2) hx hb dX3_order_44 (by decide) ?_
                  have n_18 := ki_nat x_17 rfl (om_329 LP1_h0 i_17)
                  have n_19 := ki_nat y_5 rfl (om_38 i_2 i_5)
                  exact ih1 x_17 kv kn (om_34 LP1_h0 i_17) (om_262 a1 LP1_h1 i_1 i_17) (mj_in_end LP2_h2 (by omega) (Or.inr (by rw [show j.toNatClampNeg - 1 = y_5.toNatClampNeg by omega]; unfold mj_lea; omega)) (by omega)) LP2_h3 (om_mu hn1 (om_5 i_17) (om_6 i_1)) _ _ hP hD hS ls (lv_sub hl [0, 2] rfl)
                · exact absurd c_16 (by decide)
        exact LP2 ((i.toInt : Int).toNat + 1) i gv gn (om_44 LP1_h0) om_7 (mj_in_new LP1_h2 rfl) LP1_h3 (Nat.lt_succ_self _) _ _ hP hD hS ls (lv_sub hl [0, 1, 2] rfl)
  have k_20 : (1 : Int32).toInt = 1 := rfl
  exact LP1 ((vs.toInt - 1 : Int).toNat + 1) 1 fv fn om_45 om_451 (mj_srt_1 _ _ (by decide)) (fun mu h => h) (Nat.lt_succ_self _) _ _ hP hD hS ls (lv_sub hl [0, 1] rfl)

set_option maxHeartbeats 4000000 in
set_option maxRecDepth 100000 in
theorem c_X3_cancel_x (l : Launch) (dC : Nat → ClassId) (dI : Nat → Nat → Nat) (h0 : Nat) (a_v : Nat) (a_n : Nat) (cyI : ClassId) (vs : Int32) (lo : Int32) (le : Int32) (fv : Nat → Int32) (fn : Nat → Int32) (mu : Int32 → Int) (p0 : Int32) (sz : Nat) (a0 : 0 ≤ vs.toInt) (a1 : vs.toInt ≤ 12) (b0 : 0 ≤ p0.toInt) (b1 : p0.toInt ≤ 6) (va : mj_vs fv fn 0 vs.toNatClampNeg mu) (bd : ∀ v : Int32, mu v ≤ 1000000) : Met l yX3_cancel wsX3_cancel ({ frames := 2, cells := 0, slots := 0, locals := 90 }) (va_Pc [.ref h0, .int p0] (fun U => U.heap.size = sz ∧ va_P (dC, dI) vwCl [kx_3 h0 a_v a_n vs lo le, kx_a a_v cyI 12 fv, kx_a a_n cyI 12 fn] U.heap ∧ va_K (dC, dI) vwCl [(cyI, .int)] U ∧ va_D (fun _ => True) [kx_3 h0 a_v a_n vs lo le, kx_a a_v cyI 12 fv, kx_a a_n cyI 12 fn])) (va_Qv (fun u : Int32 × Int32 × Int32 × (Nat → Int32) × (Nat → Int32) × (Int32 → Int) => mj_can p0.toNatClampNeg mu u.2.2.2.2.2 u.2.2.1 ∧ u.2.1 = lo + u.2.2.1 ∧ 0 ≤ u.1.toInt ∧ u.1.toInt ≤ p0.toInt ∧ mj_vs u.2.2.2.1 u.2.2.2.2.1 0 u.1.toNatClampNeg u.2.2.2.2.2 ∧ mj_srt u.2.2.2.1 u.2.2.2.2.1 0 u.1.toNatClampNeg ∧ 0 ≤ u.2.2.1.toInt) (fun (u : Int32 × Int32 × Int32 × (Nat → Int32) × (Nat → Int32) × (Int32 → Int)) (t : State) => va_P (dC, dI) vwCl [kx_3 h0 a_v a_n u.1 u.2.1 u.2.2.1, kx_a a_v cyI 12 u.2.2.2.1, kx_a a_n cyI 12 u.2.2.2.2.1] t.heap ∧ va_K (dC, dI) vwCl [(cyI, .int)] t ∧ va_D (va_A [kx_3 h0 a_v a_n vs lo le, kx_a a_v cyI 12 fv, kx_a a_n cyI 12 fn] sz) [kx_3 h0 a_v a_n u.1 u.2.1 u.2.2.1, kx_a a_v cyI 12 u.2.2.2.1, kx_a a_n cyI 12 u.2.2.2.2.1]) (va_A [kx_3 h0 a_v a_n vs lo le, kx_a a_v cyI 12 fv, kx_a a_n cyI 12 fn] sz)) 0 0 (va_A [kx_3 h0 a_v a_n vs lo le, kx_a a_v cyI 12 fv, kx_a a_n cyI 12 fn] sz) := by
  refine Met.ofW (cc := cX3_cancel) (maxL := 4) (ret := none) (by decide) rfl ?_
  intro p e s m args below meth c s₁ B hml hv
  obtain ⟨rfl, hsz, hP, hK, hD0⟩ := hv
  have hx := B.exec
  have hb := B.bytes
  have hr := B.returns
  have hts := atoms_spec (ws := wsX3_cancel) B.pre
  have hown : s.vm.findClass RX3 = some m.cls := findClass_of_methodNamed B.named
  have hlocks := B.notSynchronized
  subst hsz
  have hD := hD0.self (sz := s.heap.size)
  generalize hAe : va_A [kx_3 h0 a_v a_n vs lo le, kx_a a_v cyI 12 fv, kx_a a_n cyI 12 fn] s.heap.size = A at hD ⊢
  have hA : ∀ q : Nat, s.heap.size ≤ q → A q := fun q h => by rw [← hAe]; exact Or.inr h
  have hS : va_S A s.heap s.heap [] := va_S.rf
  have hP : va_P (dC, dI) vwCl [kx_3 h0 a_v a_n vs lo le, kx_a a_v cyI 12 fv, kx_a a_n cyI 12 fn] s.heap := hP
  have hl := lv_entry ([.ref h0, .int p0]) (n := 4) (Nat.le_of_ble_eq_true rfl)
  rw [lg_entry_eq]
  generalize (lg_sl ([.ref h0, .int p0]) ++ List.replicate (4 - (lg_sl ([.ref h0, .int p0])).length) Slot.unset).toArray = ls at hl ⊢
  have hl : lv_has ls 4 [(0, .ref h0), (1, .int p0)] := hl
  have hf_18 := hts (.fieldLink RX3 18 "MajorityIndex$Votes" "size" "I") (List.mem_of_getElem? (i := 1) rfl)
  have hi_3 : ∀ w ∈ u_ws RX3 TX3 5, w ∈ wsX3_cancel := fun w h => List.mem_cons_of_mem _ (List.mem_append_right _ h)
  have hf_25 := hts (.fieldLink RX3 25 "MajorityIndex$Votes" "lessBy" "I") (List.mem_of_getElem? (i := 3) rfl)
  have hf_22 := hts (.fieldLink RX3 22 "MajorityIndex$Votes" "lost" "I") (List.mem_of_getElem? (i := 4) rfl)
  have hf_15 := hts (.fieldLink RX3 15 "MajorityIndex$Votes" "number" "[I") (List.mem_of_getElem? (i := 2) rfl)
  refine lv_aload_n hx hb dX3_cancel_0 rfl (lv_at hl 0 rfl) ?_
  have hPc := hP
  have hKc := hK
  have hDc := hD
  have hFc := kx_free hD hS hA
  refine va_callv (va_runV (As := []) (rest := []) ⟨hx, hb, hml, hown, hts⟩ (c_X3_order_x l dC dI h0 a_v a_n cyI vs lo le fv fn s.heap.size a0 a1) (cwV 0 hts gX3_cancel_X3_order rfl rfl rfl (by decide +kernel) ⟨Nat.le_of_ble_eq_true rfl, Nat.le_of_ble_eq_true rfl⟩) ⟨fun a U g mk q => by obtain ⟨q0, q1, qP, qK, qD⟩ := q; exact ⟨q0, q1, qP, va_K.moved (u := U) (U := U.calling g mk a) (Vm.Alike.refl U.vm) qK, qD⟩, va_recv hKc hPc (ci := 3) (q0 := 0) rfl rfl, fun U hU hW => ⟨rfl, by rw [hU], by rw [hU]; exact hPc, va_K.moved hW.alike hKc, hDc.weaken (fun _ _ _ _ => trivial)⟩⟩ rfl rfl hl.1 rfl (lv_room (Nat.le_of_ble_eq_true rfl)) dX3_cancel_1 ⟨Nat.le_of_ble_eq_true rfl, Nat.le_of_ble_eq_true rfl⟩) hS (fun q _ h => hFc q h) hFc (fun u t H1 locs ht hvm w_1 hB hz1 hk1 hS => ?_)
  obtain ⟨o_2, o_3⟩ := u
  dsimp only at w_1 hB
  obtain ⟨hP1, hK1, hD1⟩ := hB
  rw [ht] at hP1
  have hK1 := va_K.moved hvm.symm hK1
  have hD := hD1.weaken (fun _ q _ h => hFc q.1 h)
  have hP := hP1
  clear hP1 hD1 hK1 hk1 hz1 hFc hDc hPc hKc
  generalize H1 = H at hP hS ⊢
  have w_1 : mj_srt o_2 o_3 0 vs.toNatClampNeg ∧ ∀ mu : Int32 → Int, mj_vs fv fn 0 vs.toNatClampNeg mu → mj_vs o_2 o_3 0 vs.toNatClampNeg mu := w_1
  have n_vs := ki_nat vs rfl (om_8 a0)
  have n_p0 := ki_nat p0 rfl (om_8 b0)
  have hsum : mj_vs o_2 o_3 0 vs.toNatClampNeg mu := w_1.2 _ va
  have hbd := mj_bd hsum bd
  refine lv_aload_n hx hb dX3_cancel_4 rfl (lv_at hl 0 rfl) ?_
  refine lv_iload_n hx hb dX3_cancel_5 rfl (lv_at hl 1 rfl) ?_
  refine lv_if_lt (tgt := 26) hx hb dX3_cancel_6 (by decide) (fun c_4 => ?_) (fun c_4 => ?_)
  · have i_4 : p0.toInt < 0 := kc_lt c_4
    exfalso; omega
  · have i_4 : 0 ≤ p0.toInt := kc_nlt c_4
    refine lv_iload_n hx hb dX3_cancel_9 rfl (lv_at hl 1 rfl) ?_
    refine lv_aload_n hx hb dX3_cancel_10 rfl (lv_at hl 0 rfl) ?_
    refine va_get (D := (dC, dI)) (ci := 3) (v := .int vs) (C := RX3) (T := TX3) (N := 5) hx hb hts hi_3 hown hK hP 0 rfl rfl 2 (by decide) hf_18 (fun _ h9 => h9) rfl dX3_cancel_11 ?_
    refine lv_icmp_ge (tgt := 26) hx hb dX3_cancel_14 (by decide) (fun c_5 => ?_) (fun c_5 => ?_)
    · have i_5 : vs.toInt ≤ p0.toInt := kc_le c_5
      refine lv_iconst (v := 0) hx hb dX3_cancel_26 (by decide) ?_
      refine va_put (D := (dC, dI)) (ci := 3) (v := .int 0) (ty := .int) (C := RX3) (T := TX3) (N := 5) hx hb hts hi_3 tyX3 tyX3_ok nmX3 hown hK hP hD hS 0 rfl rfl 4 (by decide) hf_25 (fun _ h9 => h9) rfl (by decide +kernel) rfl rfl (Nat.le_of_ble_eq_true rfl) dX3_cancel_27 (fun H locs hP hD hS => ?_)
      obtain ⟨hP, hD⟩ := kx_re (w2 := [kx_3 h0 a_v a_n vs lo 0, kx_a a_v cyI 12 o_2, kx_a a_n cyI 12 o_3]) hP hD rfl
      refine lv_aload_n hx hb dX3_cancel_30 rfl (lv_at hl 0 rfl) ?_
      refine lv_dup hx hb dX3_cancel_31 rfl ?_
      refine va_get (D := (dC, dI)) (ci := 3) (v := .int lo) (C := RX3) (T := TX3) (N := 5) hx hb hts hi_3 hown hK hP 0 rfl rfl 3 (by decide) hf_22 (fun _ h9 => h9) rfl dX3_cancel_32 ?_
      refine lv_aload_n hx hb dX3_cancel_35 rfl (lv_at hl 0 rfl) ?_
      refine va_get (D := (dC, dI)) (ci := 3) (v := .int 0) (C := RX3) (T := TX3) (N := 5) hx hb hts hi_3 hown hK hP 0 rfl rfl 4 (by decide) hf_25 (fun _ h9 => h9) rfl dX3_cancel_36 ?_
      refine lv_iadd hx hb dX3_cancel_39 ?_
      refine lv_topi (fun y_6 ey_6 => ?_)
      refine va_put (D := (dC, dI)) (ci := 3) (v := .int y_6) (ty := .int) (C := RX3) (T := TX3) (N := 5) hx hb hts hi_3 tyX3 tyX3_ok nmX3 hown hK hP hD hS 0 rfl rfl 3 (by decide) hf_22 (fun _ h9 => h9) rfl (by decide +kernel) rfl rfl (Nat.le_of_ble_eq_true rfl) dX3_cancel_40 (fun H locs hP hD hS => ?_)
      obtain ⟨hP, hD⟩ := kx_re (w2 := [kx_3 h0 a_v a_n vs y_6 0, kx_a a_v cyI 12 o_2, kx_a a_n cyI 12 o_3]) hP hD rfl
      refine lv_iconst (v := 0) hx hb dX3_cancel_43 (by decide) ?_
      refine lv_istore_n (lv' := [(2, .int 0), (0, .ref h0), (1, .int p0)]) hx hb dX3_cancel_44 rfl hl (by decide) rfl (fun ls hl => ?_)
      refine lv_iconst (v := 0) hx hb dX3_cancel_45 (by decide) ?_
      refine lv_istore_n (lv' := [(3, .int 0), (2, .int 0), (0, .ref h0), (1, .int p0)]) hx hb dX3_cancel_46 rfl hl (by decide) rfl (fun ls hl => ?_)
      have LP1 : ∀ (n : Nat) (lf : Int32) (k : Int32) (wn : Nat → Int32), (0 ≤ lf.toInt) → (0 ≤ k.toInt) → (k.toInt ≤ vs.toInt) → (mj_wc p0.toNatClampNeg o_3 0 lf.toNatClampNeg k.toNatClampNeg wn) → (vs.toInt - k.toInt).toNat < n → ∀ (H : Heap) (locs : List Loc), va_P (dC, dI) vwCl [kx_3 h0 a_v a_n vs y_6 0, kx_a a_v cyI 12 o_2, kx_a a_n cyI 12 wn] H → va_D A [kx_3 h0 a_v a_n vs y_6 0, kx_a a_v cyI 12 o_2, kx_a a_n cyI 12 wn] → va_S A s.heap H locs → ∀ (ls : Array Slot), lv_has ls 4 [(3, .int k), (2, .int lf), (0, .ref h0), (1, .int p0)] → W p l e (headSpec wsX3_cancel ({ frames := 2, cells := 0, slots := 0, locals := 90 })).room s m ([.ref h0, .int p0] : List Value).toArray below meth c H locs 0 0 (MQ below (va_Qv (fun u : Int32 × Int32 × Int32 × (Nat → Int32) × (Nat → Int32) × (Int32 → Int) => mj_can p0.toNatClampNeg mu u.2.2.2.2.2 u.2.2.1 ∧ u.2.1 = lo + u.2.2.1 ∧ 0 ≤ u.1.toInt ∧ u.1.toInt ≤ p0.toInt ∧ mj_vs u.2.2.2.1 u.2.2.2.2.1 0 u.1.toNatClampNeg u.2.2.2.2.2 ∧ mj_srt u.2.2.2.1 u.2.2.2.2.1 0 u.1.toNatClampNeg ∧ 0 ≤ u.2.2.1.toInt) (fun (u : Int32 × Int32 × Int32 × (Nat → Int32) × (Nat → Int32) × (Int32 → Int)) (t : State) => va_P (dC, dI) vwCl [kx_3 h0 a_v a_n u.1 u.2.1 u.2.2.1, kx_a a_v cyI 12 u.2.2.2.1, kx_a a_n cyI 12 u.2.2.2.2.1] t.heap ∧ va_K (dC, dI) vwCl [(cyI, .int)] t ∧ va_D A [kx_3 h0 a_v a_n u.1 u.2.1 u.2.2.1, kx_a a_v cyI 12 u.2.2.2.1, kx_a a_n cyI 12 u.2.2.2.2.1]) A) ([.ref h0, .int p0] : List Value).toArray s 0 0 A) (F0 m 47 ls []) := by
        intro n
        induction n with
        | zero => intro lf k wn LP1_h0 LP1_h1 LP1_h2 LP1_h3 hn; exact absurd hn (Nat.not_lt_zero _)
        | succ n ih1 =>
          intro lf k wn LP1_h0 LP1_h1 LP1_h2 LP1_h3 hn1 H locs hP hD hS ls hl
          have n_lf := ki_nat lf rfl (om_8 LP1_h0)
          have n_k := ki_nat k rfl (om_8 LP1_h1)
          have h_lf := LP1_h3.2.1
          have h_lk := LP1_h3.1
          refine lv_iload_n hx hb dX3_cancel_47 rfl (lv_at hl 0 rfl) ?_
          refine lv_aload_n hx hb dX3_cancel_48 rfl (lv_at hl 2 rfl) ?_
          refine va_get (D := (dC, dI)) (ci := 3) (v := .int vs) (C := RX3) (T := TX3) (N := 5) hx hb hts hi_3 hown hK hP 0 rfl rfl 2 (by decide) hf_18 (fun _ h9 => h9) rfl dX3_cancel_49 ?_
          refine lv_icmp_ge (tgt := 86) hx hb dX3_cancel_52 (by decide) (fun c_7 => ?_) (fun c_7 => ?_)
          · have i_7 : vs.toInt ≤ k.toInt := kc_le c_7
            refine lv_aload_n hx hb dX3_cancel_86 rfl (lv_at hl 2 rfl) ?_
            refine lv_iload_n hx hb dX3_cancel_87 rfl (lv_at hl 1 rfl) ?_
            refine va_put (D := (dC, dI)) (ci := 3) (v := .int lf) (ty := .int) (C := RX3) (T := TX3) (N := 5) hx hb hts hi_3 tyX3 tyX3_ok nmX3 hown hK hP hD hS 0 rfl rfl 2 (by decide) hf_18 (fun _ h9 => h9) rfl (by decide +kernel) rfl rfl (Nat.le_of_ble_eq_true rfl) dX3_cancel_88 (fun H locs hP hD hS => ?_)
            obtain ⟨hP, hD⟩ := kx_re (w2 := [kx_3 h0 a_v a_n lf y_6 0, kx_a a_v cyI 12 o_2, kx_a a_n cyI 12 wn]) hP hD rfl
            have hP9 := hP
            have hD9 := hD
            have hK9 := hK
            have hen := mj_wc_end LP1_h3 (m := vs.toNatClampNeg) (by omega) hsum w_1.1 (by omega)
            exact W.vret hx hb hr (fun t ht hW => ⟨⟨(lf, y_6, 0, o_2, wn, (fun v => if (0 : Int) < mu v then mu v - 0 else 0)), rfl, ⟨⟨o_2, o_3, vs.toNatClampNeg, hsum, w_1.1, Or.inl ⟨(by omega), rfl⟩, (fun v => rfl)⟩, (by (try dsimp only); rw [ey_6]), (by (try dsimp only); omega), (by (try dsimp only); omega), hen.1, hen.2, (by (try dsimp only); decide)⟩, by rw [ht]; exact hP9, va_K.moved hW.alike hK9, hD9⟩, hS.F ht⟩) hS.2.2 dX3_cancel_91
          · have i_7 : k.toInt < vs.toInt := kc_nle c_7
            refine lv_aload_n hx hb dX3_cancel_55 rfl (lv_at hl 2 rfl) ?_
            refine va_get (D := (dC, dI)) (ci := 3) (v := .ref a_n) (C := RX3) (T := TX3) (N := 5) hx hb hts hi_3 hown hK hP 0 rfl rfl 1 (by decide) hf_15 (fun _ h9 => h9) rfl dX3_cancel_56 ?_
            refine lv_iload_n hx hb dX3_cancel_59 rfl (lv_at hl 0 rfl) ?_
            refine lv_dup2_11 hx hb dX3_cancel_60 rfl rfl ?_
            refine va_iald hx hb hK hP 2 0 rfl rfl (ki_in (om_8 LP1_h1) (om_29 a1 i_7)) dX3_cancel_61 ?_
            refine lv_topi (fun y_8 ey_8 => ?_)
            have j_8 : y_8.toInt = (wn k.toNatClampNeg).toInt := congrArg Int32.toInt ey_8
            have q_w : wn k.toNatClampNeg = o_3 k.toNatClampNeg := LP1_h3.2.2.2.2.2 _ (Nat.le_refl _)
            have g_9 : 0 < y_8.toInt ∧ y_8.toInt ≤ 1000000 := by rw [ey_8, q_w]; exact hbd k.toNatClampNeg (by omega)
            have q_k : y_8.toInt = (o_3 k.toNatClampNeg).toInt := by rw [ey_8, q_w]
            refine lv_aload_n hx hb dX3_cancel_62 rfl (lv_at hl 2 rfl) ?_
            refine va_get (D := (dC, dI)) (ci := 3) (v := .int 0) (C := RX3) (T := TX3) (N := 5) hx hb hts hi_3 hown hK hP 0 rfl rfl 4 (by decide) hf_25 (fun _ h9 => h9) rfl dX3_cancel_63 ?_
            refine lv_isub hx hb dX3_cancel_66 ?_
            refine lv_topi (fun y_10 ey_10 => ?_)
            have i_10 : y_10.toInt = y_8.toInt - 0 := ki_sub ey_10 rfl rfl (by omega) (by omega)
            refine va_iast hx hb hK hP hD hS 2 0 rfl rfl (ki_in (om_8 LP1_h1) (om_29 a1 i_7)) dX3_cancel_67 (fun H locs hP hD hS => ?_)
            obtain ⟨hP, hD⟩ := kx_re (w2 := [kx_3 h0 a_v a_n vs y_6 0, kx_a a_v cyI 12 o_2, kx_a a_n cyI 12 (upd wn k.toNatClampNeg y_10)]) hP hD rfl
            refine lv_aload_n hx hb dX3_cancel_68 rfl (lv_at hl 2 rfl) ?_
            refine va_get (D := (dC, dI)) (ci := 3) (v := .ref a_n) (C := RX3) (T := TX3) (N := 5) hx hb hts hi_3 hown hK hP 0 rfl rfl 1 (by decide) hf_15 (fun _ h9 => h9) rfl dX3_cancel_69 ?_
            refine lv_iload_n hx hb dX3_cancel_72 rfl (lv_at hl 0 rfl) ?_
            refine va_iald hx hb hK hP 2 0 rfl rfl (ki_in (om_8 LP1_h1) (om_29 a1 i_7)) dX3_cancel_73 ?_
            refine lv_topi (fun y_11 ey_11 => ?_)
            have j_11 : y_11.toInt = ((upd wn k.toNatClampNeg y_10) k.toNatClampNeg).toInt := congrArg Int32.toInt ey_11
            have q_t : y_11.toInt = y_10.toInt := by rw [ey_11, upd_at]
            refine lv_if_le (tgt := 80) hx hb dX3_cancel_74 (by decide) (fun c_12 => ?_) (fun c_12 => ?_)
            · have i_12 : y_11.toInt ≤ 0 := kc_le c_12
              obtain ⟨x_13, ex_13⟩ : ∃ y : Int32, y = k + 1 := ⟨_, rfl⟩
              have i_13 : x_13.toInt = k.toInt + 1 := ki_add ex_13 rfl rfl (om_10 LP1_h1) (om_30 a1 i_7)
              refine lv_iinc (v := x_13) (lv' := [(3, .int x_13), (2, .int lf), (0, .ref h0), (1, .int p0)]) hx hb dX3_cancel_80 hl (k := 0) rfl (by rw [ex_13]; rfl) (by decide) rfl (fun ls hl => ?_)
              refine lv_goto (tgt := 47) hx hb dX3_cancel_83 (by decide) ?_
              have n_14 := ki_nat x_13 rfl (om_31 LP1_h1 i_13)
              exact ih1 lf x_13 (upd wn k.toNatClampNeg y_10) (om_8 LP1_h0) (om_31 LP1_h1 i_13) (om_47 i_7 i_13) (mj_wc_step LP1_h3 w_1.1 (by omega) (by omega) (fun h => absurd h (by omega)) (by omega) (by omega)) (om_mu hn1 (om_5 i_13) (om_6 i_7)) _ _ hP hD hS ls (lv_sub hl [0, 1, 2, 3] rfl)
            · have i_12 : 0 < y_11.toInt := kc_nle c_12
              obtain ⟨x_15, ex_15⟩ : ∃ y : Int32, y = lf + 1 := ⟨_, rfl⟩
              have i_15 : x_15.toInt = lf.toInt + 1 := ki_add ex_15 rfl rfl (om_10 LP1_h0) (by omega)
              refine lv_iinc (v := x_15) (lv' := [(2, .int x_15), (3, .int k), (0, .ref h0), (1, .int p0)]) hx hb dX3_cancel_77 hl (k := 1) rfl (by rw [ex_15]; rfl) (by decide) rfl (fun ls hl => ?_)
              obtain ⟨x_16, ex_16⟩ : ∃ y : Int32, y = k + 1 := ⟨_, rfl⟩
              have i_16 : x_16.toInt = k.toInt + 1 := ki_add ex_16 rfl rfl (om_10 LP1_h1) (om_30 a1 i_7)
              refine lv_iinc (v := x_16) (lv' := [(3, .int x_16), (2, .int x_15), (0, .ref h0), (1, .int p0)]) hx hb dX3_cancel_80 hl (k := 1) rfl (by rw [ex_16]; rfl) (by decide) rfl (fun ls hl => ?_)
              refine lv_goto (tgt := 47) hx hb dX3_cancel_83 (by decide) ?_
              have n_17 := ki_nat x_16 rfl (om_31 LP1_h1 i_16)
              have n_18 := ki_nat x_15 rfl (om_31 LP1_h0 i_15)
              exact ih1 x_15 x_16 (upd wn k.toNatClampNeg y_10) (om_31 LP1_h0 i_15) (om_31 LP1_h1 i_16) (om_47 i_7 i_16) (mj_wc_step LP1_h3 w_1.1 (by omega) (by omega) (fun h => absurd h (by omega)) (by omega) (by omega)) (om_mu hn1 (om_5 i_16) (om_6 i_7)) _ _ hP hD hS ls (lv_sub hl [0, 1, 2, 3] rfl)
      have k_19 : (0 : Int32).toInt = 0 := rfl
      have k_20 : (0 : Int32).toInt = 0 := rfl
      exact LP1 ((vs.toInt - 0 : Int).toNat + 1) 0 0 o_3 om_32 om_32 (om_8 a0) (mj_wc_0 _ _ _ rfl rfl) (Nat.lt_succ_self _) _ _ hP hD hS ls (lv_sub hl [0, 1, 2, 3] rfl)
    · have i_5 : p0.toInt < vs.toInt := kc_nle c_5
      refine lv_aload_n hx hb dX3_cancel_17 rfl (lv_at hl 0 rfl) ?_
      refine va_get (D := (dC, dI)) (ci := 3) (v := .ref a_n) (C := RX3) (T := TX3) (N := 5) hx hb hts hi_3 hown hK hP 0 rfl rfl 1 (by decide) hf_15 (fun _ h9 => h9) rfl dX3_cancel_18 ?_
      refine lv_iload_n hx hb dX3_cancel_21 rfl (lv_at hl 1 rfl) ?_
      refine va_iald hx hb hK hP 2 0 rfl rfl (ki_in (om_8 b0) (om_272 b1)) dX3_cancel_22 ?_
      refine lv_topi (fun y_21 ey_21 => ?_)
      have j_21 : y_21.toInt = (o_3 p0.toNatClampNeg).toInt := congrArg Int32.toInt ey_21
      have g_22 : 0 < y_21.toInt ∧ y_21.toInt ≤ 1000000 := by rw [ey_21]; exact hbd p0.toNatClampNeg (by omega)
      refine lv_goto (tgt := 27) hx hb dX3_cancel_23 (by decide) ?_
      refine va_put (D := (dC, dI)) (ci := 3) (v := .int y_21) (ty := .int) (C := RX3) (T := TX3) (N := 5) hx hb hts hi_3 tyX3 tyX3_ok nmX3 hown hK hP hD hS 0 rfl rfl 4 (by decide) hf_25 (fun _ h9 => h9) rfl (by decide +kernel) rfl rfl (Nat.le_of_ble_eq_true rfl) dX3_cancel_27 (fun H locs hP hD hS => ?_)
      obtain ⟨hP, hD⟩ := kx_re (w2 := [kx_3 h0 a_v a_n vs lo y_21, kx_a a_v cyI 12 o_2, kx_a a_n cyI 12 o_3]) hP hD rfl
      refine lv_aload_n hx hb dX3_cancel_30 rfl (lv_at hl 0 rfl) ?_
      refine lv_dup hx hb dX3_cancel_31 rfl ?_
      refine va_get (D := (dC, dI)) (ci := 3) (v := .int lo) (C := RX3) (T := TX3) (N := 5) hx hb hts hi_3 hown hK hP 0 rfl rfl 3 (by decide) hf_22 (fun _ h9 => h9) rfl dX3_cancel_32 ?_
      refine lv_aload_n hx hb dX3_cancel_35 rfl (lv_at hl 0 rfl) ?_
      refine va_get (D := (dC, dI)) (ci := 3) (v := .int y_21) (C := RX3) (T := TX3) (N := 5) hx hb hts hi_3 hown hK hP 0 rfl rfl 4 (by decide) hf_25 (fun _ h9 => h9) rfl dX3_cancel_36 ?_
      refine lv_iadd hx hb dX3_cancel_39 ?_
      refine lv_topi (fun y_23 ey_23 => ?_)
      refine va_put (D := (dC, dI)) (ci := 3) (v := .int y_23) (ty := .int) (C := RX3) (T := TX3) (N := 5) hx hb hts hi_3 tyX3 tyX3_ok nmX3 hown hK hP hD hS 0 rfl rfl 3 (by decide) hf_22 (fun _ h9 => h9) rfl (by decide +kernel) rfl rfl (Nat.le_of_ble_eq_true rfl) dX3_cancel_40 (fun H locs hP hD hS => ?_)
      obtain ⟨hP, hD⟩ := kx_re (w2 := [kx_3 h0 a_v a_n vs y_23 y_21, kx_a a_v cyI 12 o_2, kx_a a_n cyI 12 o_3]) hP hD rfl
      refine lv_iconst (v := 0) hx hb dX3_cancel_43 (by decide) ?_
      refine lv_istore_n (lv' := [(2, .int 0), (0, .ref h0), (1, .int p0)]) hx hb dX3_cancel_44 rfl hl (by decide) rfl (fun ls hl => ?_)
      refine lv_iconst (v := 0) hx hb dX3_cancel_45 (by decide) ?_
      refine lv_istore_n (lv' := [(3, .int 0), (2, .int 0), (0, .ref h0), (1, .int p0)]) hx hb dX3_cancel_46 rfl hl (by decide) rfl (fun ls hl => ?_)
      have LP2 : ∀ (n : Nat) (lf : Int32) (k : Int32) (wn : Nat → Int32), (0 ≤ lf.toInt) → (0 ≤ k.toInt) → (k.toInt ≤ vs.toInt) → (mj_wc p0.toNatClampNeg o_3 y_21.toInt lf.toNatClampNeg k.toNatClampNeg wn) → (vs.toInt - k.toInt).toNat < n → ∀ (H : Heap) (locs : List Loc), va_P (dC, dI) vwCl [kx_3 h0 a_v a_n vs y_23 y_21, kx_a a_v cyI 12 o_2, kx_a a_n cyI 12 wn] H → va_D A [kx_3 h0 a_v a_n vs y_23 y_21, kx_a a_v cyI 12 o_2, kx_a a_n cyI 12 wn] → va_S A s.heap H locs → ∀ (ls : Array Slot), lv_has ls 4 [(3, .int k), (2, .int lf), (0, .ref h0), (1, .int p0)] → W p l e (headSpec wsX3_cancel ({ frames := 2, cells := 0, slots := 0, locals := 90 })).room s m ([.ref h0, .int p0] : List Value).toArray below meth c H locs 0 0 (MQ below (va_Qv (fun u : Int32 × Int32 × Int32 × (Nat → Int32) × (Nat → Int32) × (Int32 → Int) => mj_can p0.toNatClampNeg mu u.2.2.2.2.2 u.2.2.1 ∧ u.2.1 = lo + u.2.2.1 ∧ 0 ≤ u.1.toInt ∧ u.1.toInt ≤ p0.toInt ∧ mj_vs u.2.2.2.1 u.2.2.2.2.1 0 u.1.toNatClampNeg u.2.2.2.2.2 ∧ mj_srt u.2.2.2.1 u.2.2.2.2.1 0 u.1.toNatClampNeg ∧ 0 ≤ u.2.2.1.toInt) (fun (u : Int32 × Int32 × Int32 × (Nat → Int32) × (Nat → Int32) × (Int32 → Int)) (t : State) => va_P (dC, dI) vwCl [kx_3 h0 a_v a_n u.1 u.2.1 u.2.2.1, kx_a a_v cyI 12 u.2.2.2.1, kx_a a_n cyI 12 u.2.2.2.2.1] t.heap ∧ va_K (dC, dI) vwCl [(cyI, .int)] t ∧ va_D A [kx_3 h0 a_v a_n u.1 u.2.1 u.2.2.1, kx_a a_v cyI 12 u.2.2.2.1, kx_a a_n cyI 12 u.2.2.2.2.1]) A) ([.ref h0, .int p0] : List Value).toArray s 0 0 A) (F0 m 47 ls []) := by
        intro n
        induction n with
        | zero => intro lf k wn LP2_h0 LP2_h1 LP2_h2 LP2_h3 hn; exact absurd hn (Nat.not_lt_zero _)
        | succ n ih2 =>
          intro lf k wn LP2_h0 LP2_h1 LP2_h2 LP2_h3 hn2 H locs hP hD hS ls hl
          have n_lf := ki_nat lf rfl (om_8 LP2_h0)
          have n_k := ki_nat k rfl (om_8 LP2_h1)
          have h_lf := LP2_h3.2.1
          have h_lk := LP2_h3.1
          refine lv_iload_n hx hb dX3_cancel_47 rfl (lv_at hl 0 rfl) ?_
          refine lv_aload_n hx hb dX3_cancel_48 rfl (lv_at hl 2 rfl) ?_
          refine va_get (D := (dC, dI)) (ci := 3) (v := .int vs) (C := RX3) (T := TX3) (N := 5) hx hb hts hi_3 hown hK hP 0 rfl rfl 2 (by decide) hf_18 (fun _ h9 => h9) rfl dX3_cancel_49 ?_
          refine lv_icmp_ge (tgt := 86) hx hb dX3_cancel_52 (by decide) (fun c_24 => ?_) (fun c_24 => ?_)
          · have i_24 : vs.toInt ≤ k.toInt := kc_le c_24
            refine lv_aload_n hx hb dX3_cancel_86 rfl (lv_at hl 2 rfl) ?_
            refine lv_iload_n hx hb dX3_cancel_87 rfl (lv_at hl 1 rfl) ?_
            refine va_put (D := (dC, dI)) (ci := 3) (v := .int lf) (ty := .int) (C := RX3) (T := TX3) (N := 5) hx hb hts hi_3 tyX3 tyX3_ok nmX3 hown hK hP hD hS 0 rfl rfl 2 (by decide) hf_18 (fun _ h9 => h9) rfl (by decide +kernel) rfl rfl (Nat.le_of_ble_eq_true rfl) dX3_cancel_88 (fun H locs hP hD hS => ?_)
            obtain ⟨hP, hD⟩ := kx_re (w2 := [kx_3 h0 a_v a_n lf y_23 y_21, kx_a a_v cyI 12 o_2, kx_a a_n cyI 12 wn]) hP hD rfl
            have hP9 := hP
            have hD9 := hD
            have hK9 := hK
            have hen := mj_wc_end LP2_h3 (m := vs.toNatClampNeg) (by omega) hsum w_1.1 (by omega)
            exact W.vret hx hb hr (fun t ht hW => ⟨⟨(lf, y_23, y_21, o_2, wn, (fun v => if (y_21.toInt : Int) < mu v then mu v - y_21.toInt else 0)), rfl, ⟨⟨o_2, o_3, vs.toNatClampNeg, hsum, w_1.1, Or.inr ⟨(by omega), ey_21⟩, (fun v => rfl)⟩, (by (try dsimp only); rw [ey_23]), (by (try dsimp only); omega), (by (try dsimp only); omega), hen.1, hen.2, (by (try dsimp only); omega)⟩, by rw [ht]; exact hP9, va_K.moved hW.alike hK9, hD9⟩, hS.F ht⟩) hS.2.2 dX3_cancel_91
          · have i_24 : k.toInt < vs.toInt := kc_nle c_24
            refine lv_aload_n hx hb dX3_cancel_55 rfl (lv_at hl 2 rfl) ?_
            refine va_get (D := (dC, dI)) (ci := 3) (v := .ref a_n) (C := RX3) (T := TX3) (N := 5) hx hb hts hi_3 hown hK hP 0 rfl rfl 1 (by decide) hf_15 (fun _ h9 => h9) rfl dX3_cancel_56 ?_
            refine lv_iload_n hx hb dX3_cancel_59 rfl (lv_at hl 0 rfl) ?_
            refine lv_dup2_11 hx hb dX3_cancel_60 rfl rfl ?_
            refine va_iald hx hb hK hP 2 0 rfl rfl (ki_in (om_8 LP2_h1) (om_29 a1 i_24)) dX3_cancel_61 ?_
            refine lv_topi (fun y_25 ey_25 => ?_)
            have j_25 : y_25.toInt = (wn k.toNatClampNeg).toInt := congrArg Int32.toInt ey_25
            have q_w : wn k.toNatClampNeg = o_3 k.toNatClampNeg := LP2_h3.2.2.2.2.2 _ (Nat.le_refl _)
            have g_26 : 0 < y_25.toInt ∧ y_25.toInt ≤ 1000000 := by rw [ey_25, q_w]; exact hbd k.toNatClampNeg (by omega)
            have q_k : y_25.toInt = (o_3 k.toNatClampNeg).toInt := by rw [ey_25, q_w]
            refine lv_aload_n hx hb dX3_cancel_62 rfl (lv_at hl 2 rfl) ?_
            refine va_get (D := (dC, dI)) (ci := 3) (v := .int y_21) (C := RX3) (T := TX3) (N := 5) hx hb hts hi_3 hown hK hP 0 rfl rfl 4 (by decide) hf_25 (fun _ h9 => h9) rfl dX3_cancel_63 ?_
            refine lv_isub hx hb dX3_cancel_66 ?_
            refine lv_topi (fun y_27 ey_27 => ?_)
            have i_27 : y_27.toInt = y_25.toInt - y_21.toInt := ki_sub ey_27 rfl rfl (by omega) (by omega)
            refine va_iast hx hb hK hP hD hS 2 0 rfl rfl (ki_in (om_8 LP2_h1) (om_29 a1 i_24)) dX3_cancel_67 (fun H locs hP hD hS => ?_)
            obtain ⟨hP, hD⟩ := kx_re (w2 := [kx_3 h0 a_v a_n vs y_23 y_21, kx_a a_v cyI 12 o_2, kx_a a_n cyI 12 (upd wn k.toNatClampNeg y_27)]) hP hD rfl
            refine lv_aload_n hx hb dX3_cancel_68 rfl (lv_at hl 2 rfl) ?_
            refine va_get (D := (dC, dI)) (ci := 3) (v := .ref a_n) (C := RX3) (T := TX3) (N := 5) hx hb hts hi_3 hown hK hP 0 rfl rfl 1 (by decide) hf_15 (fun _ h9 => h9) rfl dX3_cancel_69 ?_
            refine lv_iload_n hx hb dX3_cancel_72 rfl (lv_at hl 0 rfl) ?_
            refine va_iald hx hb hK hP 2 0 rfl rfl (ki_in (om_8 LP2_h1) (om_29 a1 i_24)) dX3_cancel_73 ?_
            refine lv_topi (fun y_28 ey_28 => ?_)
            have j_28 : y_28.toInt = ((upd wn k.toNatClampNeg y_27) k.toNatClampNeg).toInt := congrArg Int32.toInt ey_28
            have q_t : y_28.toInt = y_27.toInt := by rw [ey_28, upd_at]
            refine lv_if_le (tgt := 80) hx hb dX3_cancel_74 (by decide) (fun c_29 => ?_) (fun c_29 => ?_)
            · have i_29 : y_28.toInt ≤ 0 := kc_le c_29
              obtain ⟨x_30, ex_30⟩ : ∃ y : Int32, y = k + 1 := ⟨_, rfl⟩
              have i_30 : x_30.toInt = k.toInt + 1 := ki_add ex_30 rfl rfl (om_10 LP2_h1) (om_46 a1 LP2_h2)
              refine lv_iinc (v := x_30) (lv' := [(3, .int x_30), (2, .int lf), (0, .ref h0), (1, .int p0)]) hx hb dX3_cancel_80 hl (k := 0) rfl (by rw [ex_30]; rfl) (by decide) rfl (fun ls hl => ?_)
              refine lv_goto (tgt := 47) hx hb dX3_cancel_83 (by decide) ?_
              have n_31 := ki_nat x_30 rfl (om_31 LP2_h1 i_30)
              exact ih2 lf x_30 (upd wn k.toNatClampNeg y_27) (om_8 LP2_h0) (om_31 LP2_h1 i_30) (om_47 i_24 i_30) (mj_wc_step LP2_h3 w_1.1 (by omega) (by omega) (fun _ => j_21) (by omega) (by omega)) (om_mu hn2 (om_5 i_30) (om_6 i_24)) _ _ hP hD hS ls (lv_sub hl [0, 1, 2, 3] rfl)
            · have i_29 : 0 < y_28.toInt := kc_nle c_29
              obtain ⟨x_32, ex_32⟩ : ∃ y : Int32, y = lf + 1 := ⟨_, rfl⟩
              have i_32 : x_32.toInt = lf.toInt + 1 := ki_add ex_32 rfl rfl (om_10 LP2_h0) (by omega)
              refine lv_iinc (v := x_32) (lv' := [(2, .int x_32), (3, .int k), (0, .ref h0), (1, .int p0)]) hx hb dX3_cancel_77 hl (k := 1) rfl (by rw [ex_32]; rfl) (by decide) rfl (fun ls hl => ?_)
              obtain ⟨x_33, ex_33⟩ : ∃ y : Int32, y = k + 1 := ⟨_, rfl⟩
              have i_33 : x_33.toInt = k.toInt + 1 := ki_add ex_33 rfl rfl (om_10 LP2_h1) (om_46 a1 LP2_h2)
              refine lv_iinc (v := x_33) (lv' := [(3, .int x_33), (2, .int x_32), (0, .ref h0), (1, .int p0)]) hx hb dX3_cancel_80 hl (k := 1) rfl (by rw [ex_33]; rfl) (by decide) rfl (fun ls hl => ?_)
              refine lv_goto (tgt := 47) hx hb dX3_cancel_83 (by decide) ?_
              have n_34 := ki_nat x_33 rfl (om_31 LP2_h1 i_33)
              have n_35 := ki_nat x_32 rfl (om_31 LP2_h0 i_32)
              exact ih2 x_32 x_33 (upd wn k.toNatClampNeg y_27) (om_31 LP2_h0 i_32) (om_31 LP2_h1 i_33) (om_47 i_24 i_33) (mj_wc_step LP2_h3 w_1.1 (by omega) (by omega) (fun _ => j_21) (by omega) (by omega)) (om_mu hn2 (om_5 i_33) (om_6 i_24)) _ _ hP hD hS ls (lv_sub hl [0, 1, 2, 3] rfl)
      have k_36 : (0 : Int32).toInt = 0 := rfl
      have k_37 : (0 : Int32).toInt = 0 := rfl
      exact LP2 ((vs.toInt - 0 : Int).toNat + 1) 0 0 o_3 om_32 om_32 (om_8 a0) (mj_wc_0 _ _ _ rfl rfl) (Nat.lt_succ_self _) _ _ hP hD hS ls (lv_sub hl [0, 1, 2, 3] rfl)

set_option maxHeartbeats 4000000 in
set_option maxRecDepth 100000 in
theorem c_X2_joinNode_x (l : Launch) (dC : Nat → ClassId) (dI : Nat → Nat → Nat) (q_t : Nat) (q_row : Nat) (q_joined : Nat) (q_from : Nat) (q_to : Nat) (q_size : Nat) (q_lossOf : Nat) (q_lessBy : Nat) (q_value : Nat) (q_number : Nat) (nodes : Int32) (here : Int32) (h0 : Nat) (a_v : Nat) (a_n : Nat) (cyI : ClassId) (vs : Int32) (lo : Int32) (le : Int32) (fv : Nat → Int32) (fn : Nat → Int32) (fs : Nat → Int32) (fo : Nat → Int32) (uv : Nat → Int32) (un : Nat → Int32) (mua : Int32 → Int) (mub : Int32 → Int) (p0 : Int32) (sz : Nat) (b0 : 0 ≤ p0.toInt) (b1 : p0.toInt < 319) (n0 : 0 ≤ vs.toInt) (n1 : vs.toInt ≤ 6) (n2 : 0 ≤ (fs p0.toNatClampNeg).toInt) (n3 : (fs p0.toNatClampNeg).toInt ≤ 6) (va : mj_vs fv fn 0 vs.toNatClampNeg mua) (vb : mj_vs uv un (6 * p0.toNatClampNeg) (fs p0.toNatClampNeg).toNatClampNeg mub) (bd : ∀ v : Int32, mua v + mub v ≤ 1000000) : Met l yX2_joinNode wsX2_joinNode ({ frames := 1, cells := 0, slots := 0, locals := 45 }) (va_Pc [.ref q_t, .ref h0, .int p0] (fun U => U.heap.size = sz ∧ va_P (dC, dI) vwCl [kx_2 q_t q_row q_joined q_from q_to q_size q_lossOf q_lessBy q_value q_number nodes here, kx_a q_size cyI 319 fs, kx_a q_lossOf cyI 319 fo, kx_a q_value cyI 1914 uv, kx_a q_number cyI 1914 un, kx_3 h0 a_v a_n vs lo le, kx_a a_v cyI 12 fv, kx_a a_n cyI 12 fn] U.heap ∧ va_K (dC, dI) vwCl [(cyI, .int)] U ∧ va_D (fun _ => True) [kx_2 q_t q_row q_joined q_from q_to q_size q_lossOf q_lessBy q_value q_number nodes here, kx_a q_size cyI 319 fs, kx_a q_lossOf cyI 319 fo, kx_a q_value cyI 1914 uv, kx_a q_number cyI 1914 un, kx_3 h0 a_v a_n vs lo le, kx_a a_v cyI 12 fv, kx_a a_n cyI 12 fn])) (va_Qv (fun u : Int32 × Int32 × (Nat → Int32) × (Nat → Int32) => mj_vs u.2.2.1 u.2.2.2 0 u.1.toNatClampNeg (fun w => mua w + mub w) ∧ u.2.1 = lo + fo p0.toNatClampNeg ∧ 0 ≤ u.1.toInt ∧ u.1.toInt ≤ vs.toInt + (fs p0.toNatClampNeg).toInt) (fun (u : Int32 × Int32 × (Nat → Int32) × (Nat → Int32)) (t : State) => va_P (dC, dI) vwCl [kx_2 q_t q_row q_joined q_from q_to q_size q_lossOf q_lessBy q_value q_number nodes here, kx_a q_size cyI 319 fs, kx_a q_lossOf cyI 319 fo, kx_a q_value cyI 1914 uv, kx_a q_number cyI 1914 un, kx_3 h0 a_v a_n u.1 u.2.1 le, kx_a a_v cyI 12 u.2.2.1, kx_a a_n cyI 12 u.2.2.2] t.heap ∧ va_K (dC, dI) vwCl [(cyI, .int)] t ∧ va_D (va_A [kx_2 q_t q_row q_joined q_from q_to q_size q_lossOf q_lessBy q_value q_number nodes here, kx_a q_size cyI 319 fs, kx_a q_lossOf cyI 319 fo, kx_a q_value cyI 1914 uv, kx_a q_number cyI 1914 un, kx_3 h0 a_v a_n vs lo le, kx_a a_v cyI 12 fv, kx_a a_n cyI 12 fn] sz) [kx_2 q_t q_row q_joined q_from q_to q_size q_lossOf q_lessBy q_value q_number nodes here, kx_a q_size cyI 319 fs, kx_a q_lossOf cyI 319 fo, kx_a q_value cyI 1914 uv, kx_a q_number cyI 1914 un, kx_3 h0 a_v a_n u.1 u.2.1 le, kx_a a_v cyI 12 u.2.2.1, kx_a a_n cyI 12 u.2.2.2]) (va_A [kx_2 q_t q_row q_joined q_from q_to q_size q_lossOf q_lessBy q_value q_number nodes here, kx_a q_size cyI 319 fs, kx_a q_lossOf cyI 319 fo, kx_a q_value cyI 1914 uv, kx_a q_number cyI 1914 un, kx_3 h0 a_v a_n vs lo le, kx_a a_v cyI 12 fv, kx_a a_n cyI 12 fn] sz)) 0 0 (va_A [kx_2 q_t q_row q_joined q_from q_to q_size q_lossOf q_lessBy q_value q_number nodes here, kx_a q_size cyI 319 fs, kx_a q_lossOf cyI 319 fo, kx_a q_value cyI 1914 uv, kx_a q_number cyI 1914 un, kx_3 h0 a_v a_n vs lo le, kx_a a_v cyI 12 fv, kx_a a_n cyI 12 fn] sz) := by
  refine Met.ofW (cc := cX2_joinNode) (maxL := 5) (ret := none) (by decide) rfl ?_
  intro p e s m args below meth c s₁ B hml hv
  obtain ⟨rfl, hsz, hP, hK, hD0⟩ := hv
  have hx := B.exec
  have hb := B.bytes
  have hr := B.returns
  have hts := atoms_spec (ws := wsX2_joinNode) B.pre
  have hown : s.vm.findClass RX2 = some m.cls := findClass_of_methodNamed B.named
  have hlocks := B.notSynchronized
  subst hsz
  have hD := hD0.self (sz := s.heap.size)
  generalize hAe : va_A [kx_2 q_t q_row q_joined q_from q_to q_size q_lossOf q_lessBy q_value q_number nodes here, kx_a q_size cyI 319 fs, kx_a q_lossOf cyI 319 fo, kx_a q_value cyI 1914 uv, kx_a q_number cyI 1914 un, kx_3 h0 a_v a_n vs lo le, kx_a a_v cyI 12 fv, kx_a a_n cyI 12 fn] s.heap.size = A at hD ⊢
  have hA : ∀ q : Nat, s.heap.size ≤ q → A q := fun q h => by rw [← hAe]; exact Or.inr h
  have hS : va_S A s.heap s.heap [] := va_S.rf
  have hP : va_P (dC, dI) vwCl [kx_2 q_t q_row q_joined q_from q_to q_size q_lossOf q_lessBy q_value q_number nodes here, kx_a q_size cyI 319 fs, kx_a q_lossOf cyI 319 fo, kx_a q_value cyI 1914 uv, kx_a q_number cyI 1914 un, kx_3 h0 a_v a_n vs lo le, kx_a a_v cyI 12 fv, kx_a a_n cyI 12 fn] s.heap := hP
  have hl := lv_entry ([.ref q_t, .ref h0, .int p0]) (n := 5) (Nat.le_of_ble_eq_true rfl)
  rw [lg_entry_eq]
  generalize (lg_sl ([.ref q_t, .ref h0, .int p0]) ++ List.replicate (5 - (lg_sl ([.ref q_t, .ref h0, .int p0])).length) Slot.unset).toArray = ls at hl ⊢
  have hl : lv_has ls 5 [(0, .ref q_t), (1, .ref h0), (2, .int p0)] := hl
  have hf_25 := hts (.fieldLink RX2 25 "MajorityIndex$Tree" "size" "[I") (List.mem_of_getElem? (i := 1) rfl)
  have hi_2 : ∀ w ∈ u_ws RX2 TX2 11, w ∈ wsX2_joinNode := fun w h => List.mem_cons_of_mem _ (List.mem_append_left _ (List.mem_append_right _ h))
  have hf_91 := hts (.fieldLink RX2 91 "MajorityIndex$Votes" "lost" "I") (List.mem_of_getElem? (i := 4) rfl)
  have hi_3 : ∀ w ∈ u_ws RX3 TX3 5, w ∈ wsX2_joinNode := fun w h => List.mem_cons_of_mem _ (List.mem_append_right _ h)
  have hf_28 := hts (.fieldLink RX2 28 "MajorityIndex$Tree" "lossOf" "[I") (List.mem_of_getElem? (i := 5) rfl)
  have hf_34 := hts (.fieldLink RX2 34 "MajorityIndex$Tree" "value" "[I") (List.mem_of_getElem? (i := 2) rfl)
  have hf_37 := hts (.fieldLink RX2 37 "MajorityIndex$Tree" "number" "[I") (List.mem_of_getElem? (i := 3) rfl)
  have n_p0 := ki_nat p0 rfl (om_8 b0)
  have n_fs := ki_nat (fs p0.toNatClampNeg) rfl (om_8 n2)
  refine lv_iload_n hx hb dX2_joinNode_0 rfl (lv_at hl 2 rfl) ?_
  refine lv_bipush (v := 6) hx hb dX2_joinNode_1 (by decide) ?_
  refine lv_imul hx hb dX2_joinNode_3 ?_
  refine lv_topi (fun y_1 ey_1 => ?_)
  have i_1 : y_1.toInt = p0.toInt * 6 := ki_mul ey_1 rfl rfl (om_86 b0) (om_87 b1)
  refine lv_istore_n (lv' := [(3, .int y_1), (0, .ref q_t), (1, .ref h0), (2, .int p0)]) hx hb dX2_joinNode_4 rfl hl (by decide) rfl (fun ls hl => ?_)
  refine lv_iconst (v := 0) hx hb dX2_joinNode_5 (by decide) ?_
  refine lv_istore (lv' := [(4, .int 0), (3, .int y_1), (0, .ref q_t), (1, .ref h0), (2, .int p0)]) hx hb dX2_joinNode_6 hl (by decide) rfl (fun ls hl => ?_)
  have LP1 : ∀ (n : Nat) (i : Int32) (zz : Int32) (yv : Nat → Int32) (yn : Nat → Int32), (0 ≤ i.toInt) → (i.toInt ≤ (fs p0.toNatClampNeg).toInt) → (0 ≤ zz.toInt) → (zz.toInt ≤ vs.toInt + i.toInt) → (mj_vs yv yn 0 zz.toNatClampNeg (fun w => mua w + mj_pm uv un (6 * p0.toNatClampNeg) i.toNatClampNeg w)) → ((fs p0.toNatClampNeg).toInt - i.toInt).toNat < n → ∀ (H : Heap) (locs : List Loc), va_P (dC, dI) vwCl [kx_2 q_t q_row q_joined q_from q_to q_size q_lossOf q_lessBy q_value q_number nodes here, kx_a q_size cyI 319 fs, kx_a q_lossOf cyI 319 fo, kx_a q_value cyI 1914 uv, kx_a q_number cyI 1914 un, kx_3 h0 a_v a_n zz lo le, kx_a a_v cyI 12 yv, kx_a a_n cyI 12 yn] H → va_D A [kx_2 q_t q_row q_joined q_from q_to q_size q_lossOf q_lessBy q_value q_number nodes here, kx_a q_size cyI 319 fs, kx_a q_lossOf cyI 319 fo, kx_a q_value cyI 1914 uv, kx_a q_number cyI 1914 un, kx_3 h0 a_v a_n zz lo le, kx_a a_v cyI 12 yv, kx_a a_n cyI 12 yn] → va_S A s.heap H locs → ∀ (ls : Array Slot), lv_has ls 5 [(4, .int i), (3, .int y_1), (0, .ref q_t), (1, .ref h0), (2, .int p0)] → W p l e (headSpec wsX2_joinNode ({ frames := 1, cells := 0, slots := 0, locals := 45 })).room s m ([.ref q_t, .ref h0, .int p0] : List Value).toArray below meth c H locs 0 0 (MQ below (va_Qv (fun u : Int32 × Int32 × (Nat → Int32) × (Nat → Int32) => mj_vs u.2.2.1 u.2.2.2 0 u.1.toNatClampNeg (fun w => mua w + mub w) ∧ u.2.1 = lo + fo p0.toNatClampNeg ∧ 0 ≤ u.1.toInt ∧ u.1.toInt ≤ vs.toInt + (fs p0.toNatClampNeg).toInt) (fun (u : Int32 × Int32 × (Nat → Int32) × (Nat → Int32)) (t : State) => va_P (dC, dI) vwCl [kx_2 q_t q_row q_joined q_from q_to q_size q_lossOf q_lessBy q_value q_number nodes here, kx_a q_size cyI 319 fs, kx_a q_lossOf cyI 319 fo, kx_a q_value cyI 1914 uv, kx_a q_number cyI 1914 un, kx_3 h0 a_v a_n u.1 u.2.1 le, kx_a a_v cyI 12 u.2.2.1, kx_a a_n cyI 12 u.2.2.2] t.heap ∧ va_K (dC, dI) vwCl [(cyI, .int)] t ∧ va_D A [kx_2 q_t q_row q_joined q_from q_to q_size q_lossOf q_lessBy q_value q_number nodes here, kx_a q_size cyI 319 fs, kx_a q_lossOf cyI 319 fo, kx_a q_value cyI 1914 uv, kx_a q_number cyI 1914 un, kx_3 h0 a_v a_n u.1 u.2.1 le, kx_a a_v cyI 12 u.2.2.1, kx_a a_n cyI 12 u.2.2.2]) A) ([.ref q_t, .ref h0, .int p0] : List Value).toArray s 0 0 A) (F0 m 8 ls []) := by
    intro n
    induction n with
    | zero => intro i zz yv yn LP1_h0 LP1_h1 LP1_h2 LP1_h3 LP1_h4 hn; exact absurd hn (Nat.not_lt_zero _)
    | succ n ih1 =>
      intro i zz yv yn LP1_h0 LP1_h1 LP1_h2 LP1_h3 LP1_h4 hn1 H locs hP hD hS ls hl
      have n_i := ki_nat i rfl (om_8 LP1_h0)
      refine lv_iload hx hb dX2_joinNode_8 (lv_at hl 0 rfl) ?_
      refine lv_aload_n hx hb dX2_joinNode_10 rfl (lv_at hl 2 rfl) ?_
      refine va_get (D := (dC, dI)) (ci := 2) (v := .ref q_size) (C := RX2) (T := TX2) (N := 11) hx hb hts hi_2 hown hK hP 0 rfl rfl 4 (by decide) hf_25 (fun _ h9 => h9) rfl dX2_joinNode_11 ?_
      refine lv_iload_n hx hb dX2_joinNode_14 rfl (lv_at hl 4 rfl) ?_
      refine va_iald hx hb hK hP 1 0 rfl rfl (ki_in (om_8 b0) (om_54 b1)) dX2_joinNode_15 ?_
      refine lv_topi (fun y_2 ey_2 => ?_)
      have j_2 : y_2.toInt = (fs p0.toNatClampNeg).toInt := congrArg Int32.toInt ey_2
      refine lv_icmp_ge (tgt := 47) hx hb dX2_joinNode_16 (by decide) (fun c_3 => ?_) (fun c_3 => ?_)
      · have i_3 : y_2.toInt ≤ i.toInt := kc_le c_3
        refine lv_aload_n hx hb dX2_joinNode_47 rfl (lv_at hl 3 rfl) ?_
        refine lv_dup hx hb dX2_joinNode_48 rfl ?_
        refine va_get (D := (dC, dI)) (ci := 3) (v := .int lo) (C := RX3) (T := TX3) (N := 5) hx hb hts hi_3 hown hK hP 5 rfl rfl 3 (by decide) hf_91 (fun _ h9 => h9) rfl dX2_joinNode_49 ?_
        refine lv_aload_n hx hb dX2_joinNode_52 rfl (lv_at hl 2 rfl) ?_
        refine va_get (D := (dC, dI)) (ci := 2) (v := .ref q_lossOf) (C := RX2) (T := TX2) (N := 11) hx hb hts hi_2 hown hK hP 0 rfl rfl 5 (by decide) hf_28 (fun _ h9 => h9) rfl dX2_joinNode_53 ?_
        refine lv_iload_n hx hb dX2_joinNode_56 rfl (lv_at hl 4 rfl) ?_
        refine va_iald hx hb hK hP 2 0 rfl rfl (ki_in (om_8 b0) (om_54 b1)) dX2_joinNode_57 ?_
        refine lv_topi (fun y_4 ey_4 => ?_)
        have j_4 : y_4.toInt = (fo p0.toNatClampNeg).toInt := congrArg Int32.toInt ey_4
        refine lv_iadd hx hb dX2_joinNode_58 ?_
        refine lv_topi (fun y_5 ey_5 => ?_)
        refine va_put (D := (dC, dI)) (ci := 3) (v := .int y_5) (ty := .int) (C := RX3) (T := TX3) (N := 5) hx hb hts hi_3 tyX3 tyX3_ok nmX3 hown hK hP hD hS 5 rfl rfl 3 (by decide) hf_91 (fun _ h9 => h9) rfl (by decide +kernel) rfl rfl (Nat.le_of_ble_eq_true rfl) dX2_joinNode_59 (fun H locs hP hD hS => ?_)
        obtain ⟨hP, hD⟩ := kx_re (w2 := [kx_2 q_t q_row q_joined q_from q_to q_size q_lossOf q_lessBy q_value q_number nodes here, kx_a q_size cyI 319 fs, kx_a q_lossOf cyI 319 fo, kx_a q_value cyI 1914 uv, kx_a q_number cyI 1914 un, kx_3 h0 a_v a_n zz y_5 le, kx_a a_v cyI 12 yv, kx_a a_n cyI 12 yn]) hP hD rfl
        have hP9 := hP
        have hD9 := hD
        have hK9 := hK
        exact W.vret hx hb hr (fun t ht hW => ⟨⟨(zz, y_5, yv, yn), rfl, ⟨mj_done LP1_h4 vb (by omega), (by (try dsimp only); rw [ey_5, ey_4]), (by (try dsimp only); omega), (by (try dsimp only); omega)⟩, by rw [ht]; exact hP9, va_K.moved hW.alike hK9, hD9⟩, hS.F ht⟩) hS.2.2 dX2_joinNode_62
      · have i_3 : i.toInt < y_2.toInt := kc_nle c_3
        refine lv_aload_n hx hb dX2_joinNode_19 rfl (lv_at hl 3 rfl) ?_
        refine lv_aload_n hx hb dX2_joinNode_20 rfl (lv_at hl 2 rfl) ?_
        refine va_get (D := (dC, dI)) (ci := 2) (v := .ref q_value) (C := RX2) (T := TX2) (N := 11) hx hb hts hi_2 hown hK hP 0 rfl rfl 7 (by decide) hf_34 (fun _ h9 => h9) rfl dX2_joinNode_21 ?_
        refine lv_iload_n hx hb dX2_joinNode_24 rfl (lv_at hl 1 rfl) ?_
        refine lv_iload hx hb dX2_joinNode_25 (lv_at hl 0 rfl) ?_
        refine lv_iadd hx hb dX2_joinNode_27 ?_
        refine lv_topi (fun y_6 ey_6 => ?_)
        have i_6 : y_6.toInt = y_1.toInt + i.toInt := ki_add ey_6 rfl rfl (om_88 b0 i_1 LP1_h0) (om_452 b1 n3 i_1 LP1_h1)
        refine va_iald hx hb hK hP 3 0 rfl rfl (ki_in (om_90 b0 i_1 LP1_h0 i_6) (om_453 b1 n3 i_1 j_2 i_3 i_6)) dX2_joinNode_28 ?_
        refine lv_topi (fun y_7 ey_7 => ?_)
        have j_7 : y_7.toInt = (uv y_6.toNatClampNeg).toInt := congrArg Int32.toInt ey_7
        refine lv_aload_n hx hb dX2_joinNode_29 rfl (lv_at hl 2 rfl) ?_
        refine va_get (D := (dC, dI)) (ci := 2) (v := .ref q_number) (C := RX2) (T := TX2) (N := 11) hx hb hts hi_2 hown hK hP 0 rfl rfl 8 (by decide) hf_37 (fun _ h9 => h9) rfl dX2_joinNode_30 ?_
        refine lv_iload_n hx hb dX2_joinNode_33 rfl (lv_at hl 1 rfl) ?_
        refine lv_iload hx hb dX2_joinNode_34 (lv_at hl 0 rfl) ?_
        refine lv_iadd hx hb dX2_joinNode_36 ?_
        refine lv_topi (fun y_8 ey_8 => ?_)
        have i_8 : y_8.toInt = y_1.toInt + i.toInt := ki_add ey_8 rfl rfl (om_88 b0 i_1 LP1_h0) (om_452 b1 n3 i_1 LP1_h1)
        refine va_iald hx hb hK hP 4 0 rfl rfl (ki_in (om_90 b0 i_1 LP1_h0 i_8) (om_453 b1 n3 i_1 j_2 i_3 i_8)) dX2_joinNode_37 ?_
        refine lv_topi (fun y_9 ey_9 => ?_)
        have j_9 : y_9.toInt = (un y_8.toNatClampNeg).toInt := congrArg Int32.toInt ey_9
        obtain ⟨hPc, hDc, hFc, hCc⟩ := kx_pre (wc := [kx_3 h0 a_v a_n zz lo le, kx_a a_v cyI 12 yv, kx_a a_n cyI 12 yn]) hP hD hS hA [5, 6, 7] (by decide) rfl
        have hKc := hK
        refine va_callv (va_runV (As := [.int y_7, .int y_9]) (rest := []) ⟨hx, hb, hml, hown, hts⟩ (c_X3_add_x l dC dI h0 a_v a_n cyI zz lo le yv yn y_7 y_9 H.size LP1_h2 (om_278 n1 n3 LP1_h3 j_2 i_3)) (cwV 2 hts gX2_joinNode_X3_add rfl rfl rfl (by decide +kernel) ⟨Nat.le_of_ble_eq_true rfl, Nat.le_of_ble_eq_true rfl⟩) ⟨fun a U g mk q => by obtain ⟨q0, q1, qP, qK, qD⟩ := q; exact ⟨q0, q1, qP, va_K.moved (u := U) (U := U.calling g mk a) (Vm.Alike.refl U.vm) qK, qD⟩, va_recv hKc hPc (ci := 3) (q0 := 0) rfl rfl, fun U hU hW => ⟨rfl, by rw [hU], by rw [hU]; exact hPc, va_K.moved hW.alike hKc, hDc.weaken (fun _ _ _ _ => trivial)⟩⟩ rfl rfl hl.1 rfl (lv_room (Nat.le_of_ble_eq_true rfl)) dX2_joinNode_38 ⟨Nat.le_of_ble_eq_true rfl, Nat.le_of_ble_eq_true rfl⟩) hS (fun q _ h => hFc q h) hFc (fun u t H1 locs ht hvm w_10 hB hz1 hk1 hS => ?_)
        obtain ⟨o_11, o_12, o_13⟩ := u
        dsimp only at w_10 hB
        obtain ⟨hP1, hK1, hD1⟩ := hB
        rw [ht] at hP1
        have hK1 := va_K.moved hvm.symm hK1
        obtain ⟨hP, hD⟩ := kx_join (w2 := [kx_2 q_t q_row q_joined q_from q_to q_size q_lossOf q_lessBy q_value q_number nodes here, kx_a q_size cyI 319 fs, kx_a q_lossOf cyI 319 fo, kx_a q_value cyI 1914 uv, kx_a q_number cyI 1914 un, kx_3 h0 a_v a_n o_11 lo le, kx_a a_v cyI 12 o_12, kx_a a_n cyI 12 o_13]) hP hD hP1 hD1 hk1 hFc [5, 6, 7] [0, 1, 2, 3, 4] hCc rfl (by decide) (by decide)
        clear hP1 hD1 hK1 hk1 hz1 hFc hDc hPc hKc hCc
        generalize H1 = H at hP hS ⊢
        have w_10 : mj_addR yv yn zz.toNatClampNeg y_7 y_9 o_12 o_13 o_11.toNatClampNeg ∧ zz.toInt ≤ o_11.toInt ∧ o_11.toInt ≤ zz.toInt + 1 := w_10
        obtain ⟨x_14, ex_14⟩ : ∃ y : Int32, y = i + 1 := ⟨_, rfl⟩
        have i_14 : x_14.toInt = i.toInt + 1 := ki_add ex_14 rfl rfl (om_10 LP1_h0) (om_279 n3 LP1_h1)
        refine lv_iinc (v := x_14) (lv' := [(4, .int x_14), (3, .int y_1), (0, .ref q_t), (1, .ref h0), (2, .int p0)]) hx hb dX2_joinNode_41 hl (k := 0) rfl (by rw [ex_14]; rfl) (by decide) rfl (fun ls hl => ?_)
        refine lv_goto (tgt := 8) hx hb dX2_joinNode_44 (by decide) ?_
        have n_15 := ki_nat x_14 rfl (om_31 LP1_h0 i_14)
        have n_16 := ki_nat y_6 rfl (om_90 b0 i_1 LP1_h0 i_6)
        have n_17 := ki_nat y_8 rfl (om_90 b0 i_1 LP1_h0 i_8)
        exact ih1 x_14 o_11 o_12 o_13 (om_31 LP1_h0 i_14) (om_280 j_2 i_3 i_14) (om_0 LP1_h2 w_10.2.1) (om_281 LP1_h3 w_10.2.2 i_14) (by rw [show x_14.toNatClampNeg = i.toNatClampNeg + 1 by omega]; exact mj_step (i := i.toNatClampNeg) (q := y_6.toNatClampNeg) (q2 := y_8.toNatClampNeg) vb (by omega) (by omega) (by omega) ey_7 ey_9 (mj_hb2 bd _) LP1_h4 w_10.1) (om_mu hn1 (om_282 n2 i_14) (om_283 j_2 i_3)) _ _ hP hD hS ls (lv_sub hl [0, 1, 2, 3, 4] rfl)
  have k_18 : (0 : Int32).toInt = 0 := rfl
  exact LP1 (((fs p0.toNatClampNeg).toInt - 0 : Int).toNat + 1) 0 vs fv fn om_32 (om_8 n2) (om_8 n0) om_454 (mj_vs_congr va (fun w => (Int.add_zero (mua w)).symm)) (Nat.lt_succ_self _) _ _ hP hD hS ls (lv_sub hl [0, 1, 2, 3, 4] rfl)



set_option maxHeartbeats 4000000 in
set_option maxRecDepth 100000 in
theorem c_X2_putTogether_x (l : Launch) (dC : Nat → ClassId) (dI : Nat → Nat → Nat) (q_t : Nat) (q_row : Nat) (q_joined : Nat) (q_from : Nat) (q_to : Nat) (q_size : Nat) (q_lossOf : Nat) (q_lessBy : Nat) (q_value : Nat) (q_number : Nat) (nodes : Int32) (here : Int32) (q_cell : Nat) (cyI : ClassId) (len : Int32) (f : Nat → Int32) (ff : Nat → Int32) (ft : Nat → Int32) (fs : Nat → Int32) (fo : Nat → Int32) (uv : Nat → Int32) (un : Nat → Int32) (fe : Nat → Int32) (j_v : Nat) (j_n : Nat) (js : Int32) (jl : Int32) (je : Int32) (jv : Nat → Int32) (jn : Nat → Int32) (p0 : Int32) (sz : Nat) (b0 : 0 ≤ p0.toInt) (b1 : p0.toInt < nodes.toInt) (c0 : nodes.toInt ≤ 319) (c1 : len.toInt ≤ 160) (t0 : treeOk ff ft nodes.toInt len.toInt) (k0 : 1 ≤ here.toInt) (k1 : here.toInt ≤ 6) (hc : mj_ch here.toNatClampNeg f ff ft fs fo fe uv un p0.toNatClampNeg) : Met l yX2_putTogether wsX2_putTogether ({ frames := 3, cells := 0, slots := 0, locals := 135 }) (va_Pc [.ref q_t, .int p0] (fun U => U.heap.size = sz ∧ va_P (dC, dI) vwCl [kx_2 q_t q_row q_joined q_from q_to q_size q_lossOf q_lessBy q_value q_number nodes here, kx_0 q_row q_cell len, kx_a q_cell cyI 160 f, kx_a q_from cyI 319 ff, kx_a q_to cyI 319 ft, kx_a q_size cyI 319 fs, kx_a q_lossOf cyI 319 fo, kx_a q_value cyI 1914 uv, kx_a q_number cyI 1914 un, kx_3 q_joined j_v j_n js jl je, kx_a j_v cyI 12 jv, kx_a j_n cyI 12 jn] U.heap ∧ va_K (dC, dI) vwCl [(cyI, .int)] U ∧ va_D (fun _ => True) [kx_2 q_t q_row q_joined q_from q_to q_size q_lossOf q_lessBy q_value q_number nodes here, kx_0 q_row q_cell len, kx_a q_cell cyI 160 f, kx_a q_from cyI 319 ff, kx_a q_to cyI 319 ft, kx_a q_size cyI 319 fs, kx_a q_lossOf cyI 319 fo, kx_a q_value cyI 1914 uv, kx_a q_number cyI 1914 un, kx_3 q_joined j_v j_n js jl je, kx_a j_v cyI 12 jv, kx_a j_n cyI 12 jn])) (va_Qv (fun u : Int32 × Int32 × Int32 × (Nat → Int32) × (Nat → Int32) × (Int32 → Int) => mj_jn here.toNatClampNeg f ff ft fs fo fe uv un p0.toNatClampNeg u.2.2.2.2.2 u.2.1 u.2.2.1 ∧ mj_vs u.2.2.2.1 u.2.2.2.2.1 0 u.1.toNatClampNeg u.2.2.2.2.2 ∧ mj_srt u.2.2.2.1 u.2.2.2.2.1 0 u.1.toNatClampNeg ∧ 0 ≤ u.1.toInt ∧ u.1.toInt ≤ here.toInt) (fun (u : Int32 × Int32 × Int32 × (Nat → Int32) × (Nat → Int32) × (Int32 → Int)) (t : State) => va_P (dC, dI) vwCl [kx_2 q_t q_row q_joined q_from q_to q_size q_lossOf q_lessBy q_value q_number nodes here, kx_0 q_row q_cell len, kx_a q_cell cyI 160 f, kx_a q_from cyI 319 ff, kx_a q_to cyI 319 ft, kx_a q_size cyI 319 fs, kx_a q_lossOf cyI 319 fo, kx_a q_value cyI 1914 uv, kx_a q_number cyI 1914 un, kx_3 q_joined j_v j_n u.1 u.2.1 u.2.2.1, kx_a j_v cyI 12 u.2.2.2.1, kx_a j_n cyI 12 u.2.2.2.2.1] t.heap ∧ va_K (dC, dI) vwCl [(cyI, .int)] t ∧ va_D (va_A [kx_2 q_t q_row q_joined q_from q_to q_size q_lossOf q_lessBy q_value q_number nodes here, kx_0 q_row q_cell len, kx_a q_cell cyI 160 f, kx_a q_from cyI 319 ff, kx_a q_to cyI 319 ft, kx_a q_size cyI 319 fs, kx_a q_lossOf cyI 319 fo, kx_a q_value cyI 1914 uv, kx_a q_number cyI 1914 un, kx_3 q_joined j_v j_n js jl je, kx_a j_v cyI 12 jv, kx_a j_n cyI 12 jn] sz) [kx_2 q_t q_row q_joined q_from q_to q_size q_lossOf q_lessBy q_value q_number nodes here, kx_0 q_row q_cell len, kx_a q_cell cyI 160 f, kx_a q_from cyI 319 ff, kx_a q_to cyI 319 ft, kx_a q_size cyI 319 fs, kx_a q_lossOf cyI 319 fo, kx_a q_value cyI 1914 uv, kx_a q_number cyI 1914 un, kx_3 q_joined j_v j_n u.1 u.2.1 u.2.2.1, kx_a j_v cyI 12 u.2.2.2.1, kx_a j_n cyI 12 u.2.2.2.2.1]) (va_A [kx_2 q_t q_row q_joined q_from q_to q_size q_lossOf q_lessBy q_value q_number nodes here, kx_0 q_row q_cell len, kx_a q_cell cyI 160 f, kx_a q_from cyI 319 ff, kx_a q_to cyI 319 ft, kx_a q_size cyI 319 fs, kx_a q_lossOf cyI 319 fo, kx_a q_value cyI 1914 uv, kx_a q_number cyI 1914 un, kx_3 q_joined j_v j_n js jl je, kx_a j_v cyI 12 jv, kx_a j_n cyI 12 jn] sz)) 0 0 (va_A [kx_2 q_t q_row q_joined q_from q_to q_size q_lossOf q_lessBy q_value q_number nodes here, kx_0 q_row q_cell len, kx_a q_cell cyI 160 f, kx_a q_from cyI 319 ff, kx_a q_to cyI 319 ft, kx_a q_size cyI 319 fs, kx_a q_lossOf cyI 319 fo, kx_a q_value cyI 1914 uv, kx_a q_number cyI 1914 un, kx_3 q_joined j_v j_n js jl je, kx_a j_v cyI 12 jv, kx_a j_n cyI 12 jn] sz) := by
  refine Met.ofW (cc := cX2_putTogether) (maxL := 2) (ret := none) (by decide) rfl ?_
  intro p e s m args below meth c s₁ B hml hv
  obtain ⟨rfl, hsz, hP, hK, hD0⟩ := hv
  have hx := B.exec
  have hb := B.bytes
  have hr := B.returns
  have hts := atoms_spec (ws := wsX2_putTogether) B.pre
  have hown : s.vm.findClass RX2 = some m.cls := findClass_of_methodNamed B.named
  have hlocks := B.notSynchronized
  subst hsz
  have hD := hD0.self (sz := s.heap.size)
  generalize hAe : va_A [kx_2 q_t q_row q_joined q_from q_to q_size q_lossOf q_lessBy q_value q_number nodes here, kx_0 q_row q_cell len, kx_a q_cell cyI 160 f, kx_a q_from cyI 319 ff, kx_a q_to cyI 319 ft, kx_a q_size cyI 319 fs, kx_a q_lossOf cyI 319 fo, kx_a q_value cyI 1914 uv, kx_a q_number cyI 1914 un, kx_3 q_joined j_v j_n js jl je, kx_a j_v cyI 12 jv, kx_a j_n cyI 12 jn] s.heap.size = A at hD ⊢
  have hA : ∀ q : Nat, s.heap.size ≤ q → A q := fun q h => by rw [← hAe]; exact Or.inr h
  have hS : va_S A s.heap s.heap [] := va_S.rf
  have hP : va_P (dC, dI) vwCl [kx_2 q_t q_row q_joined q_from q_to q_size q_lossOf q_lessBy q_value q_number nodes here, kx_0 q_row q_cell len, kx_a q_cell cyI 160 f, kx_a q_from cyI 319 ff, kx_a q_to cyI 319 ft, kx_a q_size cyI 319 fs, kx_a q_lossOf cyI 319 fo, kx_a q_value cyI 1914 uv, kx_a q_number cyI 1914 un, kx_3 q_joined j_v j_n js jl je, kx_a j_v cyI 12 jv, kx_a j_n cyI 12 jn] s.heap := hP
  have hl := lv_entry ([.ref q_t, .int p0]) (n := 2) (Nat.le_of_ble_eq_true rfl)
  rw [lg_entry_eq]
  generalize (lg_sl ([.ref q_t, .int p0]) ++ List.replicate (2 - (lg_sl ([.ref q_t, .int p0])).length) Slot.unset).toArray = ls at hl ⊢
  have hl : lv_has ls 2 [(0, .ref q_t), (1, .int p0)] := hl
  have hf_12 := hts (.fieldLink RX2 12 "MajorityIndex$Tree" "joined" "LMajorityIndex$Votes;") (List.mem_of_getElem? (i := 1) rfl)
  have hi_2 : ∀ w ∈ u_ws RX2 TX2 11, w ∈ wsX2_putTogether := fun w h => List.mem_cons_of_mem _ (List.mem_append_left _ (List.mem_append_left _ (List.mem_append_right _ h)))
  have hf_22 := hts (.fieldLink RX2 22 "MajorityIndex$Tree" "to" "[I") (List.mem_of_getElem? (i := 2) rfl)
  have hf_18 := hts (.fieldLink RX2 18 "MajorityIndex$Tree" "from" "[I") (List.mem_of_getElem? (i := 3) rfl)
  have hf_85 := hts (.fieldLink RX2 85 "MajorityIndex$Tree" "slotsHere" "I") (List.mem_of_getElem? (i := 6) rfl)
  have hf_40 := hts (.fieldLink RX2 40 "MajorityIndex$Tree" "row" "LMajorityIndex$Row;") (List.mem_of_getElem? (i := 4) rfl)
  have hf_74 := hts (.fieldLink RX2 74 "MajorityIndex$Row" "cell" "[I") (List.mem_of_getElem? (i := 5) rfl)
  have hi_0 : ∀ w ∈ u_ws RX0 TX0 2, w ∈ wsX2_putTogether := fun w h => List.mem_cons_of_mem _ (List.mem_append_left _ (List.mem_append_right _ h))
  refine lv_aload_n hx hb dX2_putTogether_0 rfl (lv_at hl 0 rfl) ?_
  refine va_get (D := (dC, dI)) (ci := 2) (v := .ref q_joined) (C := RX2) (T := TX2) (N := 11) hx hb hts hi_2 hown hK hP 0 rfl rfl 1 (by decide) hf_12 (fun _ h9 => h9) rfl dX2_putTogether_1 ?_
  obtain ⟨hPc, hDc, hFc, hCc⟩ := kx_pre (wc := [kx_3 q_joined j_v j_n js jl je]) hP hD hS hA [9] (by decide) rfl
  have hKc := hK.sub (tys' := []) [] rfl
  refine va_callv (va_runV (As := []) (rest := []) ⟨hx, hb, hml, hown, hts⟩ (c_X3_clear l dC dI q_joined j_v j_n js jl je s.heap.size) (cwV 0 hts gX2_putTogether_X3_clear rfl rfl rfl (by decide +kernel) ⟨Nat.le_of_ble_eq_true rfl, Nat.le_of_ble_eq_true rfl⟩) ⟨fun a U g mk q => by obtain ⟨q0, q1, qP, qK, qD⟩ := q; exact ⟨q0, q1, qP, va_K.moved (u := U) (U := U.calling g mk a) (Vm.Alike.refl U.vm) qK, qD⟩, va_recv hKc hPc (ci := 3) (q0 := 0) rfl rfl, fun U hU hW => ⟨rfl, by rw [hU], by rw [hU]; exact hPc, va_K.moved hW.alike hKc, hDc.weaken (fun _ _ _ _ => trivial)⟩⟩ rfl rfl hl.1 rfl (lv_room (Nat.le_of_ble_eq_true rfl)) dX2_putTogether_4 ⟨Nat.le_of_ble_eq_true rfl, Nat.le_of_ble_eq_true rfl⟩) hS (fun q _ h => hFc q h) hFc (fun u t H1 locs ht hvm w_1 hB hz1 hk1 hS => ?_)
  obtain ⟨hP1, hK1, hD1⟩ := hB
  rw [ht] at hP1
  have hK1 := va_K.moved hvm.symm hK1
  obtain ⟨hP, hD⟩ := kx_join (w2 := [kx_2 q_t q_row q_joined q_from q_to q_size q_lossOf q_lessBy q_value q_number nodes here, kx_0 q_row q_cell len, kx_a q_cell cyI 160 f, kx_a q_from cyI 319 ff, kx_a q_to cyI 319 ft, kx_a q_size cyI 319 fs, kx_a q_lossOf cyI 319 fo, kx_a q_value cyI 1914 uv, kx_a q_number cyI 1914 un, kx_a j_v cyI 12 jv, kx_a j_n cyI 12 jn, kx_3 q_joined j_v j_n 0 0 0]) hP hD hP1 hD1 hk1 hFc [9] [0, 1, 2, 3, 4, 5, 6, 7, 8, 10, 11] hCc rfl (by decide) (by decide)
  clear hP1 hD1 hK1 hk1 hz1 hFc hDc hPc hKc hCc
  generalize H1 = H at hP hS ⊢
  have k_0 : (0 : Int32).toInt = 0 := rfl
  refine lv_aload_n hx hb dX2_putTogether_7 rfl (lv_at hl 0 rfl) ?_
  refine va_get (D := (dC, dI)) (ci := 2) (v := .ref q_to) (C := RX2) (T := TX2) (N := 11) hx hb hts hi_2 hown hK hP 0 rfl rfl 3 (by decide) hf_22 (fun _ h9 => h9) rfl dX2_putTogether_8 ?_
  refine lv_iload_n hx hb dX2_putTogether_11 rfl (lv_at hl 1 rfl) ?_
  refine va_iald hx hb hK hP 4 0 rfl rfl (ki_in (om_8 b0) (om_101 b1 c0)) dX2_putTogether_12 ?_
  refine lv_topi (fun y_2 ey_2 => ?_)
  have j_2 : y_2.toInt = (ft p0.toNatClampNeg).toInt := congrArg Int32.toInt ey_2
  have n_3 : (p0.toNatClampNeg : Int) = p0.toInt := ki_nat _ rfl (om_8 b0)
  have i_4 := t0 p0.toNatClampNeg (by omega)
  unfold okAt at i_4
  refine lv_aload_n hx hb dX2_putTogether_13 rfl (lv_at hl 0 rfl) ?_
  refine va_get (D := (dC, dI)) (ci := 2) (v := .ref q_from) (C := RX2) (T := TX2) (N := 11) hx hb hts hi_2 hown hK hP 0 rfl rfl 2 (by decide) hf_18 (fun _ h9 => h9) rfl dX2_putTogether_14 ?_
  refine lv_iload_n hx hb dX2_putTogether_17 rfl (lv_at hl 1 rfl) ?_
  refine va_iald hx hb hK hP 3 0 rfl rfl (ki_in (om_8 b0) (om_101 b1 c0)) dX2_putTogether_18 ?_
  refine lv_topi (fun y_5 ey_5 => ?_)
  have j_5 : y_5.toInt = (ff p0.toNatClampNeg).toInt := congrArg Int32.toInt ey_5
  have n_6 : (p0.toNatClampNeg : Int) = p0.toInt := ki_nat _ rfl (om_8 b0)
  have i_7 := t0 p0.toNatClampNeg (by omega)
  unfold okAt at i_7
  refine lv_isub hx hb dX2_putTogether_19 ?_
  refine lv_topi (fun y_8 ey_8 => ?_)
  have i_8 : y_8.toInt = y_2.toInt - y_5.toInt := ki_sub ey_8 rfl rfl (by omega) (by omega)
  refine lv_iconst (v := 1) hx hb dX2_putTogether_20 (by decide) ?_
  refine lv_icmp_ne (tgt := 49) hx hb dX2_putTogether_21 (by decide) (fun c_9 => ?_) (fun c_9 => ?_)
  · have i_9 : ¬ y_8.toInt = 1 := kc_ne c_9
    have n_p0 := ki_nat p0 rfl (om_8 b0)
    have n_f := ki_nat (ff p0.toNatClampNeg) rfl (by omega)
    have n_t := ki_nat (ft p0.toNatClampNeg) rfl (by omega)
    obtain ⟨hc0, d, mua, La, ca, mub, Lb, cb, tA, tB⟩ := Or.resolve_left hc (by omega)
    have nA := mj_T_nd tA
    have nB := mj_T_nd tB
    have lA := mj_T_le _ _ _ _ _ _ _ tA
    have lB := mj_T_le _ _ _ _ _ _ _ tB
    have hm : mj_mid ff ft p0.toNatClampNeg = ((ff p0.toNatClampNeg).toNatClampNeg + (ft p0.toNatClampNeg).toNatClampNeg) / 2 := rfl
    refine lv_aload_n hx hb dX2_putTogether_49 rfl (lv_at hl 0 rfl) ?_
    refine lv_aload_n hx hb dX2_putTogether_50 rfl (lv_at hl 0 rfl) ?_
    refine va_get (D := (dC, dI)) (ci := 2) (v := .ref q_joined) (C := RX2) (T := TX2) (N := 11) hx hb hts hi_2 hown hK hP 0 rfl rfl 1 (by decide) hf_12 (fun _ h9 => h9) rfl dX2_putTogether_51 ?_
    refine lv_iload_n hx hb dX2_putTogether_54 rfl (lv_at hl 1 rfl) ?_
    refine lv_iconst (v := 1) hx hb dX2_putTogether_55 (by decide) ?_
    refine lv_iadd hx hb dX2_putTogether_56 ?_
    refine lv_topi (fun y_10 ey_10 => ?_)
    have i_10 : y_10.toInt = p0.toInt + 1 := ki_add ey_10 rfl rfl (om_10 b0) (om_102 b1 c0)
    have n_11 := ki_nat y_10 rfl (om_31 b0 i_10)
    have q_56 : y_10.toNatClampNeg = p0.toNatClampNeg + 1 := by omega
    obtain ⟨hPc, hDc, hFc, hCc⟩ := kx_pre (wc := [kx_2 q_t q_row q_joined q_from q_to q_size q_lossOf q_lessBy q_value q_number nodes here, kx_a q_size cyI 319 fs, kx_a q_lossOf cyI 319 fo, kx_a q_value cyI 1914 uv, kx_a q_number cyI 1914 un, kx_3 q_joined j_v j_n 0 0 0, kx_a j_v cyI 12 jv, kx_a j_n cyI 12 jn]) hP hD hS hA [0, 5, 6, 7, 8, 11, 9, 10] (by decide) rfl
    have hKc := hK
    refine va_callv (va_runV (As := [.ref q_joined, .int y_10]) (rest := []) ⟨hx, hb, hml, hown, hts⟩ (c_X2_joinNode_x l dC dI q_t q_row q_joined q_from q_to q_size q_lossOf q_lessBy q_value q_number nodes here q_joined j_v j_n cyI 0 0 0 jv jn fs fo uv un mj_z mua y_10 H.size (by omega) (by omega) (by omega) (by omega) (by rw [q_56]; exact nA.2.2.1) (by rw [q_56]; exact nA.2.2.2.1) (mj_vs_zero _ _ _) (by rw [q_56]; exact nA.2.2.2.2.2.2.2.1) (fun v => by have h1 := lA v; show (0 : Int) + _ ≤ _; omega)) (cwV 2 hts gX2_putTogether_X2_joinNode rfl rfl rfl (by decide +kernel) ⟨Nat.le_of_ble_eq_true rfl, Nat.le_of_ble_eq_true rfl⟩) ⟨fun a U g mk q => by obtain ⟨q0, q1, qP, qK, qD⟩ := q; exact ⟨q0, q1, qP, va_K.moved (u := U) (U := U.calling g mk a) (Vm.Alike.refl U.vm) qK, qD⟩, va_recv hKc hPc (ci := 2) (q0 := 0) rfl rfl, fun U hU hW => ⟨rfl, by rw [hU], by rw [hU]; exact hPc, va_K.moved hW.alike hKc, hDc.weaken (fun _ _ _ _ => trivial)⟩⟩ rfl rfl hl.1 rfl (lv_room (Nat.le_of_ble_eq_true rfl)) dX2_putTogether_57 ⟨Nat.le_of_ble_eq_true rfl, Nat.le_of_ble_eq_true rfl⟩) hS (fun q _ h => hFc q h) hFc (fun u t H1 locs ht hvm w_12 hB hz1 hk1 hS => ?_)
    obtain ⟨o_13, o_14, o_15, o_16⟩ := u
    dsimp only at w_12 hB
    obtain ⟨hP1, hK1, hD1⟩ := hB
    rw [ht] at hP1
    have hK1 := va_K.moved hvm.symm hK1
    obtain ⟨hP, hD⟩ := kx_join (w2 := [kx_0 q_row q_cell len, kx_a q_cell cyI 160 f, kx_a q_from cyI 319 ff, kx_a q_to cyI 319 ft, kx_2 q_t q_row q_joined q_from q_to q_size q_lossOf q_lessBy q_value q_number nodes here, kx_a q_size cyI 319 fs, kx_a q_lossOf cyI 319 fo, kx_a q_value cyI 1914 uv, kx_a q_number cyI 1914 un, kx_3 q_joined j_v j_n o_13 o_14 0, kx_a j_v cyI 12 o_15, kx_a j_n cyI 12 o_16]) hP hD hP1 hD1 hk1 hFc [0, 5, 6, 7, 8, 11, 9, 10] [1, 2, 3, 4] hCc rfl (by decide) (by decide)
    clear hP1 hD1 hK1 hk1 hz1 hFc hDc hPc hKc hCc
    generalize H1 = H at hP hS ⊢
    have w_12 : mj_vs o_15 o_16 0 o_13.toNatClampNeg (fun w => mj_z w + mua w) ∧ o_14 = 0 + fo y_10.toNatClampNeg ∧ 0 ≤ o_13.toInt ∧ o_13.toInt ≤ 0 + (fs y_10.toNatClampNeg).toInt := w_12
    refine lv_aload_n hx hb dX2_putTogether_60 rfl (lv_at hl 0 rfl) ?_
    refine lv_aload_n hx hb dX2_putTogether_61 rfl (lv_at hl 0 rfl) ?_
    refine va_get (D := (dC, dI)) (ci := 2) (v := .ref q_joined) (C := RX2) (T := TX2) (N := 11) hx hb hts hi_2 hown hK hP 4 rfl rfl 1 (by decide) hf_12 (fun _ h9 => h9) rfl dX2_putTogether_62 ?_
    refine lv_aload_n hx hb dX2_putTogether_65 rfl (lv_at hl 0 rfl) ?_
    refine lv_iload_n hx hb dX2_putTogether_66 rfl (lv_at hl 1 rfl) ?_
    have hPc := hP.sub (ws' := [kx_2 q_t q_row q_joined q_from q_to q_size q_lossOf q_lessBy q_value q_number nodes here, kx_a q_from cyI 319 ff, kx_a q_to cyI 319 ft]) [4, 2, 3] rfl
    have hKc := hK
    refine vp_callSi (W.runV (As := [.int p0]) (rest := [.ref q_joined, .ref q_t]) ⟨hx, hb, hml, hown, hts⟩ (c_X2_rightBelow l dC dI q_t q_row q_joined q_from q_to q_size q_lossOf q_lessBy q_value q_number nodes here cyI ff ft p0 b0 (om_103 b1 c0) (by omega) (by omega) (by omega)) (cwV 1 hts gX2_putTogether_X2_rightBelow rfl rfl rfl (by decide +kernel) ⟨Nat.le_of_ble_eq_true rfl, Nat.le_of_ble_eq_true rfl⟩) ⟨fun a U g mk q => by obtain ⟨q0, qP, qK⟩ := q; exact ⟨q0, qP, va_K.moved (u := U) (U := U.calling g mk a) (Vm.Alike.refl U.vm) qK⟩, va_recv hKc hPc (ci := 2) (q0 := 0) rfl rfl, fun U hU hW => ⟨rfl, by rw [hU]; exact hPc, va_K.moved hW.alike hKc⟩⟩ rfl rfl hl.1 rfl (lv_room (Nat.le_of_ble_eq_true rfl)) dX2_putTogether_67 ⟨Nat.le_of_ble_eq_true rfl, Nat.le_of_ble_eq_true rfl⟩) (fun r_17 w_17 => ?_)
    have w_17 : r_17.toInt = p0.toInt + 2 * (((ff p0.toNatClampNeg).toInt + (ft p0.toNatClampNeg).toInt) / 2 - (ff p0.toNatClampNeg).toInt) := w_17
    have n_18 := ki_nat r_17 rfl (by omega)
    have q_67 : r_17.toNatClampNeg = p0.toNatClampNeg + 2 * (mj_mid ff ft p0.toNatClampNeg - (ff p0.toNatClampNeg).toNatClampNeg) := by rw [hm]; omega
    obtain ⟨hPc, hDc, hFc, hCc⟩ := kx_pre (wc := [kx_2 q_t q_row q_joined q_from q_to q_size q_lossOf q_lessBy q_value q_number nodes here, kx_a q_size cyI 319 fs, kx_a q_lossOf cyI 319 fo, kx_a q_value cyI 1914 uv, kx_a q_number cyI 1914 un, kx_3 q_joined j_v j_n o_13 o_14 0, kx_a j_v cyI 12 o_15, kx_a j_n cyI 12 o_16]) hP hD hS hA [4, 5, 6, 7, 8, 9, 10, 11] (by decide) rfl
    have hKc := hK
    refine va_callv (va_runV (As := [.ref q_joined, .int r_17]) (rest := []) ⟨hx, hb, hml, hown, hts⟩ (c_X2_joinNode_x l dC dI q_t q_row q_joined q_from q_to q_size q_lossOf q_lessBy q_value q_number nodes here q_joined j_v j_n cyI o_13 o_14 0 o_15 o_16 fs fo uv un (fun w => mj_z w + mua w) mub r_17 H.size (by omega) (by omega) (by omega) (by have h1 := w_12.2.2.2; rw [q_56] at h1; have h2 := nA.2.2.2.1; omega) (by rw [q_67]; exact nB.2.2.1) (by rw [q_67]; exact nB.2.2.2.1) w_12.1 (by rw [q_67]; exact nB.2.2.2.2.2.2.2.1) (fun v => by have h1 := lA v; have h2 := lB v; show (0 : Int) + _ + _ ≤ _; omega)) (cwV 2 hts gX2_putTogether_X2_joinNode rfl rfl rfl (by decide +kernel) ⟨Nat.le_of_ble_eq_true rfl, Nat.le_of_ble_eq_true rfl⟩) ⟨fun a U g mk q => by obtain ⟨q0, q1, qP, qK, qD⟩ := q; exact ⟨q0, q1, qP, va_K.moved (u := U) (U := U.calling g mk a) (Vm.Alike.refl U.vm) qK, qD⟩, va_recv hKc hPc (ci := 2) (q0 := 0) rfl rfl, fun U hU hW => ⟨rfl, by rw [hU], by rw [hU]; exact hPc, va_K.moved hW.alike hKc, hDc.weaken (fun _ _ _ _ => trivial)⟩⟩ rfl rfl hl.1 rfl (lv_room (Nat.le_of_ble_eq_true rfl)) dX2_putTogether_70 ⟨Nat.le_of_ble_eq_true rfl, Nat.le_of_ble_eq_true rfl⟩) hS (fun q _ h => hFc q h) hFc (fun u t H1 locs ht hvm w_19 hB hz1 hk1 hS => ?_)
    obtain ⟨o_20, o_21, o_22, o_23⟩ := u
    dsimp only at w_19 hB
    obtain ⟨hP1, hK1, hD1⟩ := hB
    rw [ht] at hP1
    have hK1 := va_K.moved hvm.symm hK1
    obtain ⟨hP, hD⟩ := kx_join (w2 := [kx_0 q_row q_cell len, kx_a q_cell cyI 160 f, kx_a q_from cyI 319 ff, kx_a q_to cyI 319 ft, kx_2 q_t q_row q_joined q_from q_to q_size q_lossOf q_lessBy q_value q_number nodes here, kx_a q_size cyI 319 fs, kx_a q_lossOf cyI 319 fo, kx_a q_value cyI 1914 uv, kx_a q_number cyI 1914 un, kx_3 q_joined j_v j_n o_20 o_21 0, kx_a j_v cyI 12 o_22, kx_a j_n cyI 12 o_23]) hP hD hP1 hD1 hk1 hFc [4, 5, 6, 7, 8, 9, 10, 11] [0, 1, 2, 3] hCc rfl (by decide) (by decide)
    clear hP1 hD1 hK1 hk1 hz1 hFc hDc hPc hKc hCc
    generalize H1 = H at hP hS ⊢
    have w_19 : mj_vs o_22 o_23 0 o_20.toNatClampNeg (fun w => (fun w => mj_z w + mua w) w + mub w) ∧ o_21 = o_14 + fo r_17.toNatClampNeg ∧ 0 ≤ o_20.toInt ∧ o_20.toInt ≤ o_13.toInt + (fs r_17.toNatClampNeg).toInt := w_19
    refine lv_aload_n hx hb dX2_putTogether_73 rfl (lv_at hl 0 rfl) ?_
    refine va_get (D := (dC, dI)) (ci := 2) (v := .ref q_joined) (C := RX2) (T := TX2) (N := 11) hx hb hts hi_2 hown hK hP 4 rfl rfl 1 (by decide) hf_12 (fun _ h9 => h9) rfl dX2_putTogether_74 ?_
    refine lv_aload_n hx hb dX2_putTogether_77 rfl (lv_at hl 0 rfl) ?_
    refine va_get (D := (dC, dI)) (ci := 2) (v := .int here) (C := RX2) (T := TX2) (N := 11) hx hb hts hi_2 hown hK hP 4 rfl rfl 10 (by decide) hf_85 (fun _ h9 => h9) rfl dX2_putTogether_78 ?_
    obtain ⟨hPc, hDc, hFc, hCc⟩ := kx_pre (wc := [kx_3 q_joined j_v j_n o_20 o_21 0, kx_a j_v cyI 12 o_22, kx_a j_n cyI 12 o_23]) hP hD hS hA [9, 10, 11] (by decide) rfl
    have hKc := hK
    refine va_callv (va_runV (As := [.int here]) (rest := []) ⟨hx, hb, hml, hown, hts⟩ (c_X3_cancel_x l dC dI q_joined j_v j_n cyI o_20 o_21 0 o_22 o_23 (fun w => (fun w => mj_z w + mua w) w + mub w) here H.size (by omega) (by have h1 := w_12.2.2.2; rw [q_56] at h1; have h2 := nA.2.2.2.1; have h3 := w_19.2.2.2; rw [q_67] at h3; have h4 := nB.2.2.2.1; omega) (by omega) (by omega) w_19.1 (fun v => by have h1 := lA v; have h2 := lB v; show (0 : Int) + _ + _ ≤ _; omega)) (cwV 1 hts gX2_putTogether_X3_cancel rfl rfl rfl (by decide +kernel) ⟨Nat.le_of_ble_eq_true rfl, Nat.le_of_ble_eq_true rfl⟩) ⟨fun a U g mk q => by obtain ⟨q0, q1, qP, qK, qD⟩ := q; exact ⟨q0, q1, qP, va_K.moved (u := U) (U := U.calling g mk a) (Vm.Alike.refl U.vm) qK, qD⟩, va_recv hKc hPc (ci := 3) (q0 := 0) rfl rfl, fun U hU hW => ⟨rfl, by rw [hU], by rw [hU]; exact hPc, va_K.moved hW.alike hKc, hDc.weaken (fun _ _ _ _ => trivial)⟩⟩ rfl rfl hl.1 rfl (lv_room (Nat.le_of_ble_eq_true rfl)) dX2_putTogether_81 ⟨Nat.le_of_ble_eq_true rfl, Nat.le_of_ble_eq_true rfl⟩) hS (fun q _ h => hFc q h) hFc (fun u t H1 locs ht hvm w_24 hB hz1 hk1 hS => ?_)
    obtain ⟨o_25, o_26, o_27, o_28, o_29, o_30⟩ := u
    dsimp only at w_24 hB
    obtain ⟨hP1, hK1, hD1⟩ := hB
    rw [ht] at hP1
    have hK1 := va_K.moved hvm.symm hK1
    obtain ⟨hP, hD⟩ := kx_join (w2 := [kx_0 q_row q_cell len, kx_a q_cell cyI 160 f, kx_a q_from cyI 319 ff, kx_a q_to cyI 319 ft, kx_2 q_t q_row q_joined q_from q_to q_size q_lossOf q_lessBy q_value q_number nodes here, kx_a q_size cyI 319 fs, kx_a q_lossOf cyI 319 fo, kx_a q_value cyI 1914 uv, kx_a q_number cyI 1914 un, kx_3 q_joined j_v j_n o_25 o_26 o_27, kx_a j_v cyI 12 o_28, kx_a j_n cyI 12 o_29]) hP hD hP1 hD1 hk1 hFc [9, 10, 11] [0, 1, 2, 3, 4, 5, 6, 7, 8] hCc rfl (by decide) (by decide)
    clear hP1 hD1 hK1 hk1 hz1 hFc hDc hPc hKc hCc
    generalize H1 = H at hP hS ⊢
    have w_24 : mj_can here.toNatClampNeg (fun w => (fun w => mj_z w + mua w) w + mub w) o_30 o_27 ∧ o_26 = o_21 + o_27 ∧ 0 ≤ o_25.toInt ∧ o_25.toInt ≤ here.toInt ∧ mj_vs o_28 o_29 0 o_25.toNatClampNeg o_30 ∧ mj_srt o_28 o_29 0 o_25.toNatClampNeg ∧ 0 ≤ o_27.toInt := w_24
    obtain ⟨hP9, hD9⟩ := kx_sub (w2 := [kx_2 q_t q_row q_joined q_from q_to q_size q_lossOf q_lessBy q_value q_number nodes here, kx_0 q_row q_cell len, kx_a q_cell cyI 160 f, kx_a q_from cyI 319 ff, kx_a q_to cyI 319 ft, kx_a q_size cyI 319 fs, kx_a q_lossOf cyI 319 fo, kx_a q_value cyI 1914 uv, kx_a q_number cyI 1914 un, kx_3 q_joined j_v j_n o_25 o_26 o_27, kx_a j_v cyI 12 o_28, kx_a j_n cyI 12 o_29]) hP hD [4, 0, 1, 2, 3, 5, 6, 7, 8, 9, 10, 11] (by decide) rfl
    have hK9 := hK
    exact W.vret hx hb hr (fun t ht hW => ⟨⟨(o_25, o_26, o_27, o_28, o_29, o_30), rfl, ⟨Or.inr ⟨hc0, d, mua, La, ca, mub, Lb, cb, tA, tB, mj_can_tog w_24.1 (fun v => by show (0 : Int) + _ + _ = _; omega), (by (try dsimp only); rw [w_24.2.1, w_19.2.1, w_12.2.1, q_56, q_67, nA.2.2.2.2.2.1, nB.2.2.2.2.2.1, Int32.zero_add])⟩, w_24.2.2.2.2.1, w_24.2.2.2.2.2.1, (by (try dsimp only); omega), (by (try dsimp only); omega)⟩, by rw [ht]; exact hP9, va_K.moved hW.alike hK9, hD9⟩, hS.F ht⟩) hS.2.2 dX2_putTogether_84
  · have i_9 : y_8.toInt = 1 := kc_eq c_9
    refine lv_aload_n hx hb dX2_putTogether_24 rfl (lv_at hl 0 rfl) ?_
    refine va_get (D := (dC, dI)) (ci := 2) (v := .ref q_joined) (C := RX2) (T := TX2) (N := 11) hx hb hts hi_2 hown hK hP 0 rfl rfl 1 (by decide) hf_12 (fun _ h9 => h9) rfl dX2_putTogether_25 ?_
    refine lv_aload_n hx hb dX2_putTogether_28 rfl (lv_at hl 0 rfl) ?_
    refine va_get (D := (dC, dI)) (ci := 2) (v := .ref q_row) (C := RX2) (T := TX2) (N := 11) hx hb hts hi_2 hown hK hP 0 rfl rfl 0 (by decide) hf_40 (fun _ h9 => h9) rfl dX2_putTogether_29 ?_
    refine va_get (D := (dC, dI)) (ci := 0) (v := .ref q_cell) (C := RX0) (T := TX0) (N := 2) hx hb hts hi_0 hown hK hP 1 rfl rfl 0 (by decide) hf_74 (fun _ h9 => h9) rfl dX2_putTogether_32 ?_
    refine lv_aload_n hx hb dX2_putTogether_35 rfl (lv_at hl 0 rfl) ?_
    refine va_get (D := (dC, dI)) (ci := 2) (v := .ref q_from) (C := RX2) (T := TX2) (N := 11) hx hb hts hi_2 hown hK hP 0 rfl rfl 2 (by decide) hf_18 (fun _ h9 => h9) rfl dX2_putTogether_36 ?_
    refine lv_iload_n hx hb dX2_putTogether_39 rfl (lv_at hl 1 rfl) ?_
    refine va_iald hx hb hK hP 3 0 rfl rfl (ki_in (om_8 b0) (om_101 b1 c0)) dX2_putTogether_40 ?_
    refine lv_topi (fun y_31 ey_31 => ?_)
    have j_31 : y_31.toInt = (ff p0.toNatClampNeg).toInt := congrArg Int32.toInt ey_31
    have n_32 : (p0.toNatClampNeg : Int) = p0.toInt := ki_nat _ rfl (om_8 b0)
    have i_33 := t0 p0.toNatClampNeg (by omega)
    unfold okAt at i_33
    refine va_iald hx hb hK hP 2 0 rfl rfl (ki_in (by omega) (by omega)) dX2_putTogether_41 ?_
    refine lv_topi (fun y_34 ey_34 => ?_)
    have j_34 : y_34.toInt = (f y_31.toNatClampNeg).toInt := congrArg Int32.toInt ey_34
    refine lv_iconst (v := 1) hx hb dX2_putTogether_42 (by decide) ?_
    obtain ⟨hPc, hDc, hFc, hCc⟩ := kx_pre (wc := [kx_3 q_joined j_v j_n 0 0 0, kx_a j_v cyI 12 jv, kx_a j_n cyI 12 jn]) hP hD hS hA [11, 9, 10] (by decide) rfl
    have hKc := hK
    have k_35 : (1 : Int32).toInt = 1 := rfl
    refine va_callv (va_runV (As := [.int y_34, .int 1]) (rest := []) ⟨hx, hb, hml, hown, hts⟩ (c_X3_add_x l dC dI q_joined j_v j_n cyI 0 0 0 jv jn y_34 1 H.size om_32 om_455) (cwV 2 hts gX2_putTogether_X3_add rfl rfl rfl (by decide +kernel) ⟨Nat.le_of_ble_eq_true rfl, Nat.le_of_ble_eq_true rfl⟩) ⟨fun a U g mk q => by obtain ⟨q0, q1, qP, qK, qD⟩ := q; exact ⟨q0, q1, qP, va_K.moved (u := U) (U := U.calling g mk a) (Vm.Alike.refl U.vm) qK, qD⟩, va_recv hKc hPc (ci := 3) (q0 := 0) rfl rfl, fun U hU hW => ⟨rfl, by rw [hU], by rw [hU]; exact hPc, va_K.moved hW.alike hKc, hDc.weaken (fun _ _ _ _ => trivial)⟩⟩ rfl rfl hl.1 rfl (lv_room (Nat.le_of_ble_eq_true rfl)) dX2_putTogether_43 ⟨Nat.le_of_ble_eq_true rfl, Nat.le_of_ble_eq_true rfl⟩) hS (fun q _ h => hFc q h) hFc (fun u t H1 locs ht hvm w_36 hB hz1 hk1 hS => ?_)
    obtain ⟨o_37, o_38, o_39⟩ := u
    dsimp only at w_36 hB
    obtain ⟨hP1, hK1, hD1⟩ := hB
    rw [ht] at hP1
    have hK1 := va_K.moved hvm.symm hK1
    obtain ⟨hP, hD⟩ := kx_join (w2 := [kx_2 q_t q_row q_joined q_from q_to q_size q_lossOf q_lessBy q_value q_number nodes here, kx_0 q_row q_cell len, kx_a q_cell cyI 160 f, kx_a q_from cyI 319 ff, kx_a q_to cyI 319 ft, kx_a q_size cyI 319 fs, kx_a q_lossOf cyI 319 fo, kx_a q_value cyI 1914 uv, kx_a q_number cyI 1914 un, kx_3 q_joined j_v j_n o_37 0 0, kx_a j_v cyI 12 o_38, kx_a j_n cyI 12 o_39]) hP hD hP1 hD1 hk1 hFc [11, 9, 10] [0, 1, 2, 3, 4, 5, 6, 7, 8] hCc rfl (by decide) (by decide)
    clear hP1 hD1 hK1 hk1 hz1 hFc hDc hPc hKc hCc
    generalize H1 = H at hP hS ⊢
    have w_36 : mj_addR jv jn (0 : Int32).toNatClampNeg y_34 1 o_38 o_39 o_37.toNatClampNeg ∧ 0 ≤ o_37.toInt ∧ o_37.toInt ≤ 0 + 1 := w_36
    refine lv_goto (tgt := 84) hx hb dX2_putTogether_46 (by decide) ?_
    have hP9 := hP
    have hD9 := hD
    have hK9 := hK
    have q_v : y_34 = f (ff p0.toNatClampNeg).toNatClampNeg := by rw [ey_34, ey_31]
    have h_v := mj_vs_add (mj_vs_zero jv jn 0) (show 0 < (1 : Int32).toInt by decide) (show (0 : Int) + (1 : Int32).toInt ≤ 2147483647 by decide) w_36.1
    rw [q_v] at h_v
    have n_40 := ki_nat o_37 rfl (om_8 w_36.2.1)
    exact W.vret hx hb hr (fun t ht hW => ⟨⟨(o_37, 0, 0, o_38, o_39, (mj_one (f (ff p0.toNatClampNeg).toNatClampNeg))), rfl, ⟨Or.inl ⟨(by (try dsimp only); omega), rfl, rfl, rfl⟩, mj_vs_congr h_v (fun w => Int.zero_add _), mj_srt_1 _ _ (by (try dsimp only); omega), (by (try dsimp only); omega), (by (try dsimp only); omega)⟩, by rw [ht]; exact hP9, va_K.moved hW.alike hK9, hD9⟩, hS.F ht⟩) hS.2.2 dX2_putTogether_84

set_option maxHeartbeats 4000000 in
set_option maxRecDepth 100000 in
theorem c_X2_keepJoined_x (l : Launch) (dC : Nat → ClassId) (dI : Nat → Nat → Nat) (q_t : Nat) (q_row : Nat) (q_joined : Nat) (q_from : Nat) (q_to : Nat) (q_size : Nat) (q_lossOf : Nat) (q_lessBy : Nat) (q_value : Nat) (q_number : Nat) (nodes : Int32) (here : Int32) (cyI : ClassId) (fs : Nat → Int32) (fo : Nat → Int32) (uv : Nat → Int32) (un : Nat → Int32) (fe : Nat → Int32) (j_v : Nat) (j_n : Nat) (js : Int32) (jl : Int32) (je : Int32) (jv : Nat → Int32) (jn : Nat → Int32) (p0 : Int32) (sz : Nat) (b0 : 0 ≤ p0.toInt) (b1 : p0.toInt < 319) (j0 : 0 ≤ js.toInt) (j1 : js.toInt ≤ 6) : Met l yX2_keepJoined wsX2_keepJoined ({ frames := 1, cells := 0, slots := 0, locals := 45 }) (va_Pc [.ref q_t, .int p0] (fun U => U.heap.size = sz ∧ va_P (dC, dI) vwCl [kx_2 q_t q_row q_joined q_from q_to q_size q_lossOf q_lessBy q_value q_number nodes here, kx_a q_size cyI 319 fs, kx_a q_lossOf cyI 319 fo, kx_a q_lessBy cyI 319 fe, kx_a q_value cyI 1914 uv, kx_a q_number cyI 1914 un, kx_3 q_joined j_v j_n js jl je, kx_a j_v cyI 12 jv, kx_a j_n cyI 12 jn] U.heap ∧ va_K (dC, dI) vwCl [(cyI, .int)] U ∧ va_D (fun _ => True) [kx_2 q_t q_row q_joined q_from q_to q_size q_lossOf q_lessBy q_value q_number nodes here, kx_a q_size cyI 319 fs, kx_a q_lossOf cyI 319 fo, kx_a q_lessBy cyI 319 fe, kx_a q_value cyI 1914 uv, kx_a q_number cyI 1914 un, kx_3 q_joined j_v j_n js jl je, kx_a j_v cyI 12 jv, kx_a j_n cyI 12 jn])) (va_Qv (fun u : (Nat → Int32) × (Nat → Int32) × (Nat → Int32) × (Nat → Int32) × (Nat → Int32) => u.1 = upd fs p0.toNatClampNeg js ∧ u.2.1 = upd fo p0.toNatClampNeg jl ∧ u.2.2.1 = upd fe p0.toNatClampNeg je ∧ mj_kp jv jn uv un u.2.2.2.1 u.2.2.2.2 p0.toNatClampNeg js.toNatClampNeg) (fun (u : (Nat → Int32) × (Nat → Int32) × (Nat → Int32) × (Nat → Int32) × (Nat → Int32)) (t : State) => va_P (dC, dI) vwCl [kx_2 q_t q_row q_joined q_from q_to q_size q_lossOf q_lessBy q_value q_number nodes here, kx_a q_size cyI 319 u.1, kx_a q_lossOf cyI 319 u.2.1, kx_a q_lessBy cyI 319 u.2.2.1, kx_a q_value cyI 1914 u.2.2.2.1, kx_a q_number cyI 1914 u.2.2.2.2, kx_3 q_joined j_v j_n js jl je, kx_a j_v cyI 12 jv, kx_a j_n cyI 12 jn] t.heap ∧ va_K (dC, dI) vwCl [(cyI, .int)] t ∧ va_D (va_A [kx_2 q_t q_row q_joined q_from q_to q_size q_lossOf q_lessBy q_value q_number nodes here, kx_a q_size cyI 319 fs, kx_a q_lossOf cyI 319 fo, kx_a q_lessBy cyI 319 fe, kx_a q_value cyI 1914 uv, kx_a q_number cyI 1914 un, kx_3 q_joined j_v j_n js jl je, kx_a j_v cyI 12 jv, kx_a j_n cyI 12 jn] sz) [kx_2 q_t q_row q_joined q_from q_to q_size q_lossOf q_lessBy q_value q_number nodes here, kx_a q_size cyI 319 u.1, kx_a q_lossOf cyI 319 u.2.1, kx_a q_lessBy cyI 319 u.2.2.1, kx_a q_value cyI 1914 u.2.2.2.1, kx_a q_number cyI 1914 u.2.2.2.2, kx_3 q_joined j_v j_n js jl je, kx_a j_v cyI 12 jv, kx_a j_n cyI 12 jn]) (va_A [kx_2 q_t q_row q_joined q_from q_to q_size q_lossOf q_lessBy q_value q_number nodes here, kx_a q_size cyI 319 fs, kx_a q_lossOf cyI 319 fo, kx_a q_lessBy cyI 319 fe, kx_a q_value cyI 1914 uv, kx_a q_number cyI 1914 un, kx_3 q_joined j_v j_n js jl je, kx_a j_v cyI 12 jv, kx_a j_n cyI 12 jn] sz)) 0 0 (va_A [kx_2 q_t q_row q_joined q_from q_to q_size q_lossOf q_lessBy q_value q_number nodes here, kx_a q_size cyI 319 fs, kx_a q_lossOf cyI 319 fo, kx_a q_lessBy cyI 319 fe, kx_a q_value cyI 1914 uv, kx_a q_number cyI 1914 un, kx_3 q_joined j_v j_n js jl je, kx_a j_v cyI 12 jv, kx_a j_n cyI 12 jn] sz) := by
  refine Met.ofW (cc := cX2_keepJoined) (maxL := 4) (ret := none) (by decide) rfl ?_
  intro p e s m args below meth c s₁ B hml hv
  obtain ⟨rfl, hsz, hP, hK, hD0⟩ := hv
  have hx := B.exec
  have hb := B.bytes
  have hr := B.returns
  have hts := atoms_spec (ws := wsX2_keepJoined) B.pre
  have hown : s.vm.findClass RX2 = some m.cls := findClass_of_methodNamed B.named
  have hlocks := B.notSynchronized
  subst hsz
  have hD := hD0.self (sz := s.heap.size)
  generalize hAe : va_A [kx_2 q_t q_row q_joined q_from q_to q_size q_lossOf q_lessBy q_value q_number nodes here, kx_a q_size cyI 319 fs, kx_a q_lossOf cyI 319 fo, kx_a q_lessBy cyI 319 fe, kx_a q_value cyI 1914 uv, kx_a q_number cyI 1914 un, kx_3 q_joined j_v j_n js jl je, kx_a j_v cyI 12 jv, kx_a j_n cyI 12 jn] s.heap.size = A at hD ⊢
  have hA : ∀ q : Nat, s.heap.size ≤ q → A q := fun q h => by rw [← hAe]; exact Or.inr h
  have hS : va_S A s.heap s.heap [] := va_S.rf
  have hP : va_P (dC, dI) vwCl [kx_2 q_t q_row q_joined q_from q_to q_size q_lossOf q_lessBy q_value q_number nodes here, kx_a q_size cyI 319 fs, kx_a q_lossOf cyI 319 fo, kx_a q_lessBy cyI 319 fe, kx_a q_value cyI 1914 uv, kx_a q_number cyI 1914 un, kx_3 q_joined j_v j_n js jl je, kx_a j_v cyI 12 jv, kx_a j_n cyI 12 jn] s.heap := hP
  have hl := lv_entry ([.ref q_t, .int p0]) (n := 4) (Nat.le_of_ble_eq_true rfl)
  rw [lg_entry_eq]
  generalize (lg_sl ([.ref q_t, .int p0]) ++ List.replicate (4 - (lg_sl ([.ref q_t, .int p0])).length) Slot.unset).toArray = ls at hl ⊢
  have hl : lv_has ls 4 [(0, .ref q_t), (1, .int p0)] := hl
  have hf_12 := hts (.fieldLink RX2 12 "MajorityIndex$Tree" "joined" "LMajorityIndex$Votes;") (List.mem_of_getElem? (i := 1) rfl)
  have hi_2 : ∀ w ∈ u_ws RX2 TX2 11, w ∈ wsX2_keepJoined := fun w h => List.mem_cons_of_mem _ (List.mem_append_left _ (List.mem_append_right _ h))
  have hf_94 := hts (.fieldLink RX2 94 "MajorityIndex$Votes" "size" "I") (List.mem_of_getElem? (i := 2) rfl)
  have hi_3 : ∀ w ∈ u_ws RX3 TX3 5, w ∈ wsX2_keepJoined := fun w h => List.mem_cons_of_mem _ (List.mem_append_right _ h)
  have hf_25 := hts (.fieldLink RX2 25 "MajorityIndex$Tree" "size" "[I") (List.mem_of_getElem? (i := 7) rfl)
  have hm_98 := hts (.methodLink RX2 98 Lib.Math.min.name) (List.mem_of_getElem? (i := 8) rfl)
  have hms_min := hts (.static Lib.Math.min.name) (List.mem_of_getElem? (i := 9) rfl)
  have hz_math := hts (.initialized "java/lang/Math") (List.mem_of_getElem? (i := 10) rfl)
  have hmc_min := hts (.code Lib.Math.min.name Lib.Math.min.code 2 (some .int)) (List.mem_of_getElem? (i := 11) rfl)
  have hf_28 := hts (.fieldLink RX2 28 "MajorityIndex$Tree" "lossOf" "[I") (List.mem_of_getElem? (i := 12) rfl)
  have hf_91 := hts (.fieldLink RX2 91 "MajorityIndex$Votes" "lost" "I") (List.mem_of_getElem? (i := 13) rfl)
  have hf_31 := hts (.fieldLink RX2 31 "MajorityIndex$Tree" "lessBy" "[I") (List.mem_of_getElem? (i := 14) rfl)
  have hf_104 := hts (.fieldLink RX2 104 "MajorityIndex$Votes" "lessBy" "I") (List.mem_of_getElem? (i := 15) rfl)
  have hf_34 := hts (.fieldLink RX2 34 "MajorityIndex$Tree" "value" "[I") (List.mem_of_getElem? (i := 3) rfl)
  have hf_96 := hts (.fieldLink RX2 96 "MajorityIndex$Votes" "value" "[I") (List.mem_of_getElem? (i := 4) rfl)
  have hf_37 := hts (.fieldLink RX2 37 "MajorityIndex$Tree" "number" "[I") (List.mem_of_getElem? (i := 5) rfl)
  have hf_97 := hts (.fieldLink RX2 97 "MajorityIndex$Votes" "number" "[I") (List.mem_of_getElem? (i := 6) rfl)
  have n_p0 := ki_nat p0 rfl (om_8 b0)
  refine lv_iload_n hx hb dX2_keepJoined_0 rfl (lv_at hl 1 rfl) ?_
  refine lv_bipush (v := 6) hx hb dX2_keepJoined_1 (by decide) ?_
  refine lv_imul hx hb dX2_keepJoined_3 ?_
  refine lv_topi (fun y_1 ey_1 => ?_)
  have i_1 : y_1.toInt = p0.toInt * 6 := ki_mul ey_1 rfl rfl (om_86 b0) (om_87 b1)
  refine lv_istore_n (lv' := [(2, .int y_1), (0, .ref q_t), (1, .int p0)]) hx hb dX2_keepJoined_4 rfl hl (by decide) rfl (fun ls hl => ?_)
  refine lv_iconst (v := 0) hx hb dX2_keepJoined_5 (by decide) ?_
  refine lv_istore_n (lv' := [(3, .int 0), (2, .int y_1), (0, .ref q_t), (1, .int p0)]) hx hb dX2_keepJoined_6 rfl hl (by decide) rfl (fun ls hl => ?_)
  have LP1 : ∀ (n : Nat) (i : Int32) (wv : Nat → Int32) (wn : Nat → Int32), (0 ≤ i.toInt) → (i.toInt ≤ js.toInt) → (mj_kp jv jn uv un wv wn p0.toNatClampNeg i.toNatClampNeg) → (6 - i.toInt).toNat < n → ∀ (H : Heap) (locs : List Loc), va_P (dC, dI) vwCl [kx_2 q_t q_row q_joined q_from q_to q_size q_lossOf q_lessBy q_value q_number nodes here, kx_a q_size cyI 319 fs, kx_a q_lossOf cyI 319 fo, kx_a q_lessBy cyI 319 fe, kx_a q_value cyI 1914 wv, kx_a q_number cyI 1914 wn, kx_3 q_joined j_v j_n js jl je, kx_a j_v cyI 12 jv, kx_a j_n cyI 12 jn] H → va_D A [kx_2 q_t q_row q_joined q_from q_to q_size q_lossOf q_lessBy q_value q_number nodes here, kx_a q_size cyI 319 fs, kx_a q_lossOf cyI 319 fo, kx_a q_lessBy cyI 319 fe, kx_a q_value cyI 1914 wv, kx_a q_number cyI 1914 wn, kx_3 q_joined j_v j_n js jl je, kx_a j_v cyI 12 jv, kx_a j_n cyI 12 jn] → va_S A s.heap H locs → ∀ (ls : Array Slot), lv_has ls 4 [(3, .int i), (2, .int y_1), (0, .ref q_t), (1, .int p0)] → W p l e (headSpec wsX2_keepJoined ({ frames := 1, cells := 0, slots := 0, locals := 45 })).room s m ([.ref q_t, .int p0] : List Value).toArray below meth c H locs 0 0 (MQ below (va_Qv (fun u : (Nat → Int32) × (Nat → Int32) × (Nat → Int32) × (Nat → Int32) × (Nat → Int32) => u.1 = upd fs p0.toNatClampNeg js ∧ u.2.1 = upd fo p0.toNatClampNeg jl ∧ u.2.2.1 = upd fe p0.toNatClampNeg je ∧ mj_kp jv jn uv un u.2.2.2.1 u.2.2.2.2 p0.toNatClampNeg js.toNatClampNeg) (fun (u : (Nat → Int32) × (Nat → Int32) × (Nat → Int32) × (Nat → Int32) × (Nat → Int32)) (t : State) => va_P (dC, dI) vwCl [kx_2 q_t q_row q_joined q_from q_to q_size q_lossOf q_lessBy q_value q_number nodes here, kx_a q_size cyI 319 u.1, kx_a q_lossOf cyI 319 u.2.1, kx_a q_lessBy cyI 319 u.2.2.1, kx_a q_value cyI 1914 u.2.2.2.1, kx_a q_number cyI 1914 u.2.2.2.2, kx_3 q_joined j_v j_n js jl je, kx_a j_v cyI 12 jv, kx_a j_n cyI 12 jn] t.heap ∧ va_K (dC, dI) vwCl [(cyI, .int)] t ∧ va_D A [kx_2 q_t q_row q_joined q_from q_to q_size q_lossOf q_lessBy q_value q_number nodes here, kx_a q_size cyI 319 u.1, kx_a q_lossOf cyI 319 u.2.1, kx_a q_lessBy cyI 319 u.2.2.1, kx_a q_value cyI 1914 u.2.2.2.1, kx_a q_number cyI 1914 u.2.2.2.2, kx_3 q_joined j_v j_n js jl je, kx_a j_v cyI 12 jv, kx_a j_n cyI 12 jn]) A) ([.ref q_t, .int p0] : List Value).toArray s 0 0 A) (F0 m 7 ls []) := by
    intro n
    induction n with
    | zero => intro i wv wn LP1_h0 LP1_h1 LP1_h2 hn; exact absurd hn (Nat.not_lt_zero _)
    | succ n ih1 =>
      intro i wv wn LP1_h0 LP1_h1 LP1_h2 hn1 H locs hP hD hS ls hl
      have n_i := ki_nat i rfl (om_8 LP1_h0)
      refine lv_iload_n hx hb dX2_keepJoined_7 rfl (lv_at hl 0 rfl) ?_
      refine lv_aload_n hx hb dX2_keepJoined_8 rfl (lv_at hl 2 rfl) ?_
      refine va_get (D := (dC, dI)) (ci := 2) (v := .ref q_joined) (C := RX2) (T := TX2) (N := 11) hx hb hts hi_2 hown hK hP 0 rfl rfl 1 (by decide) hf_12 (fun _ h9 => h9) rfl dX2_keepJoined_9 ?_
      refine va_get (D := (dC, dI)) (ci := 3) (v := .int js) (C := RX3) (T := TX3) (N := 5) hx hb hts hi_3 hown hK hP 6 rfl rfl 2 (by decide) hf_94 (fun _ h9 => h9) rfl dX2_keepJoined_12 ?_
      refine lv_icmp_ge (tgt := 64) hx hb dX2_keepJoined_15 (by decide) (fun c_2 => ?_) (fun c_2 => ?_)
      · have i_2 : js.toInt ≤ i.toInt := kc_le c_2
        refine lv_aload_n hx hb dX2_keepJoined_64 rfl (lv_at hl 2 rfl) ?_
        refine va_get (D := (dC, dI)) (ci := 2) (v := .ref q_size) (C := RX2) (T := TX2) (N := 11) hx hb hts hi_2 hown hK hP 0 rfl rfl 4 (by decide) hf_25 (fun _ h9 => h9) rfl dX2_keepJoined_65 ?_
        refine lv_iload_n hx hb dX2_keepJoined_68 rfl (lv_at hl 3 rfl) ?_
        refine lv_aload_n hx hb dX2_keepJoined_69 rfl (lv_at hl 2 rfl) ?_
        refine va_get (D := (dC, dI)) (ci := 2) (v := .ref q_joined) (C := RX2) (T := TX2) (N := 11) hx hb hts hi_2 hown hK hP 0 rfl rfl 1 (by decide) hf_12 (fun _ h9 => h9) rfl dX2_keepJoined_70 ?_
        refine va_get (D := (dC, dI)) (ci := 3) (v := .int js) (C := RX3) (T := TX3) (N := 5) hx hb hts hi_3 hown hK hP 6 rfl rfl 2 (by decide) hf_94 (fun _ h9 => h9) rfl dX2_keepJoined_73 ?_
        refine lv_bipush (v := 6) hx hb dX2_keepJoined_76 (by decide) ?_
        refine va_mmin hx hb (hml.trans hl.1.symm) hown hm_98 hms_min hz_math hmc_min (Nat.le_of_ble_eq_true rfl) (Nat.le_of_ble_eq_true rfl) (Nat.le_of_ble_eq_true rfl) (Nat.le_of_ble_eq_true rfl) dX2_keepJoined_78 ?_
        refine lv_topi (fun y_3 ey_3 => ?_)
        have i_4 : (js.toInt ≤ 6 ∧ y_3.toInt = js.toInt) ∨ (6 < js.toInt ∧ y_3.toInt = 6) := ki_min ey_3 rfl rfl
        refine va_iast hx hb hK hP hD hS 1 0 rfl rfl (ki_in (om_8 b0) (om_54 b1)) dX2_keepJoined_81 (fun H locs hP hD hS => ?_)
        obtain ⟨hP, hD⟩ := kx_re (w2 := [kx_2 q_t q_row q_joined q_from q_to q_size q_lossOf q_lessBy q_value q_number nodes here, kx_a q_size cyI 319 (upd fs p0.toNatClampNeg y_3), kx_a q_lossOf cyI 319 fo, kx_a q_lessBy cyI 319 fe, kx_a q_value cyI 1914 wv, kx_a q_number cyI 1914 wn, kx_3 q_joined j_v j_n js jl je, kx_a j_v cyI 12 jv, kx_a j_n cyI 12 jn]) hP hD rfl
        refine lv_aload_n hx hb dX2_keepJoined_82 rfl (lv_at hl 2 rfl) ?_
        refine va_get (D := (dC, dI)) (ci := 2) (v := .ref q_lossOf) (C := RX2) (T := TX2) (N := 11) hx hb hts hi_2 hown hK hP 0 rfl rfl 5 (by decide) hf_28 (fun _ h9 => h9) rfl dX2_keepJoined_83 ?_
        refine lv_iload_n hx hb dX2_keepJoined_86 rfl (lv_at hl 3 rfl) ?_
        refine lv_aload_n hx hb dX2_keepJoined_87 rfl (lv_at hl 2 rfl) ?_
        refine va_get (D := (dC, dI)) (ci := 2) (v := .ref q_joined) (C := RX2) (T := TX2) (N := 11) hx hb hts hi_2 hown hK hP 0 rfl rfl 1 (by decide) hf_12 (fun _ h9 => h9) rfl dX2_keepJoined_88 ?_
        refine va_get (D := (dC, dI)) (ci := 3) (v := .int jl) (C := RX3) (T := TX3) (N := 5) hx hb hts hi_3 hown hK hP 6 rfl rfl 3 (by decide) hf_91 (fun _ h9 => h9) rfl dX2_keepJoined_91 ?_
        refine va_iast hx hb hK hP hD hS 2 0 rfl rfl (ki_in (om_8 b0) (om_54 b1)) dX2_keepJoined_94 (fun H locs hP hD hS => ?_)
        obtain ⟨hP, hD⟩ := kx_re (w2 := [kx_2 q_t q_row q_joined q_from q_to q_size q_lossOf q_lessBy q_value q_number nodes here, kx_a q_size cyI 319 (upd fs p0.toNatClampNeg y_3), kx_a q_lossOf cyI 319 (upd fo p0.toNatClampNeg jl), kx_a q_lessBy cyI 319 fe, kx_a q_value cyI 1914 wv, kx_a q_number cyI 1914 wn, kx_3 q_joined j_v j_n js jl je, kx_a j_v cyI 12 jv, kx_a j_n cyI 12 jn]) hP hD rfl
        refine lv_aload_n hx hb dX2_keepJoined_95 rfl (lv_at hl 2 rfl) ?_
        refine va_get (D := (dC, dI)) (ci := 2) (v := .ref q_lessBy) (C := RX2) (T := TX2) (N := 11) hx hb hts hi_2 hown hK hP 0 rfl rfl 6 (by decide) hf_31 (fun _ h9 => h9) rfl dX2_keepJoined_96 ?_
        refine lv_iload_n hx hb dX2_keepJoined_99 rfl (lv_at hl 3 rfl) ?_
        refine lv_aload_n hx hb dX2_keepJoined_100 rfl (lv_at hl 2 rfl) ?_
        refine va_get (D := (dC, dI)) (ci := 2) (v := .ref q_joined) (C := RX2) (T := TX2) (N := 11) hx hb hts hi_2 hown hK hP 0 rfl rfl 1 (by decide) hf_12 (fun _ h9 => h9) rfl dX2_keepJoined_101 ?_
        refine va_get (D := (dC, dI)) (ci := 3) (v := .int je) (C := RX3) (T := TX3) (N := 5) hx hb hts hi_3 hown hK hP 6 rfl rfl 4 (by decide) hf_104 (fun _ h9 => h9) rfl dX2_keepJoined_104 ?_
        refine va_iast hx hb hK hP hD hS 3 0 rfl rfl (ki_in (om_8 b0) (om_54 b1)) dX2_keepJoined_107 (fun H locs hP hD hS => ?_)
        obtain ⟨hP, hD⟩ := kx_re (w2 := [kx_2 q_t q_row q_joined q_from q_to q_size q_lossOf q_lessBy q_value q_number nodes here, kx_a q_size cyI 319 (upd fs p0.toNatClampNeg y_3), kx_a q_lossOf cyI 319 (upd fo p0.toNatClampNeg jl), kx_a q_lessBy cyI 319 (upd fe p0.toNatClampNeg je), kx_a q_value cyI 1914 wv, kx_a q_number cyI 1914 wn, kx_3 q_joined j_v j_n js jl je, kx_a j_v cyI 12 jv, kx_a j_n cyI 12 jn]) hP hD rfl
        have hP9 := hP
        have hD9 := hD
        have hK9 := hK
        have n_js := ki_nat js rfl (om_8 j0)
        have q_y : y_3 = js := Int32.toInt_inj.mp (by omega)
        exact W.vret hx hb hr (fun t ht hW => ⟨⟨((upd fs p0.toNatClampNeg y_3), (upd fo p0.toNatClampNeg jl), (upd fe p0.toNatClampNeg je), wv, wn), rfl, ⟨(by (try dsimp only); rw [q_y]), rfl, rfl, (by (try dsimp only); rw [show js.toNatClampNeg = i.toNatClampNeg by omega]; exact LP1_h2)⟩, by rw [ht]; exact hP9, va_K.moved hW.alike hK9, hD9⟩, hS.F ht⟩) hS.2.2 dX2_keepJoined_108
      · have i_2 : i.toInt < js.toInt := kc_nle c_2
        refine lv_iload_n hx hb dX2_keepJoined_18 rfl (lv_at hl 0 rfl) ?_
        refine lv_bipush (v := 6) hx hb dX2_keepJoined_19 (by decide) ?_
        refine lv_icmp_ge (tgt := 64) hx hb dX2_keepJoined_21 (by decide) (fun c_5 => ?_) (fun c_5 => ?_)
        · have i_5 : 6 ≤ i.toInt := kc_le c_5
          exfalso; omega
        · have i_5 : i.toInt < 6 := kc_nle c_5
          refine lv_aload_n hx hb dX2_keepJoined_24 rfl (lv_at hl 2 rfl) ?_
          refine va_get (D := (dC, dI)) (ci := 2) (v := .ref q_value) (C := RX2) (T := TX2) (N := 11) hx hb hts hi_2 hown hK hP 0 rfl rfl 7 (by decide) hf_34 (fun _ h9 => h9) rfl dX2_keepJoined_25 ?_
          refine lv_iload_n hx hb dX2_keepJoined_28 rfl (lv_at hl 1 rfl) ?_
          refine lv_iload_n hx hb dX2_keepJoined_29 rfl (lv_at hl 0 rfl) ?_
          refine lv_iadd hx hb dX2_keepJoined_30 ?_
          refine lv_topi (fun y_6 ey_6 => ?_)
          have i_6 : y_6.toInt = y_1.toInt + i.toInt := ki_add ey_6 rfl rfl (om_88 b0 i_1 LP1_h0) (om_96 b1 i_1 i_5)
          refine lv_aload_n hx hb dX2_keepJoined_31 rfl (lv_at hl 2 rfl) ?_
          refine va_get (D := (dC, dI)) (ci := 2) (v := .ref q_joined) (C := RX2) (T := TX2) (N := 11) hx hb hts hi_2 hown hK hP 0 rfl rfl 1 (by decide) hf_12 (fun _ h9 => h9) rfl dX2_keepJoined_32 ?_
          refine va_get (D := (dC, dI)) (ci := 3) (v := .ref j_v) (C := RX3) (T := TX3) (N := 5) hx hb hts hi_3 hown hK hP 6 rfl rfl 0 (by decide) hf_96 (fun _ h9 => h9) rfl dX2_keepJoined_35 ?_
          refine lv_iload_n hx hb dX2_keepJoined_38 rfl (lv_at hl 0 rfl) ?_
          refine va_iald hx hb hK hP 7 0 rfl rfl (ki_in (om_8 LP1_h0) (om_98 i_5)) dX2_keepJoined_39 ?_
          refine lv_topi (fun y_7 ey_7 => ?_)
          have j_7 : y_7.toInt = (jv i.toNatClampNeg).toInt := congrArg Int32.toInt ey_7
          refine va_iast hx hb hK hP hD hS 4 0 rfl rfl (ki_in (om_90 b0 i_1 LP1_h0 i_6) (om_97 b1 i_1 i_5 i_6)) dX2_keepJoined_40 (fun H locs hP hD hS => ?_)
          obtain ⟨hP, hD⟩ := kx_re (w2 := [kx_2 q_t q_row q_joined q_from q_to q_size q_lossOf q_lessBy q_value q_number nodes here, kx_a q_size cyI 319 fs, kx_a q_lossOf cyI 319 fo, kx_a q_lessBy cyI 319 fe, kx_a q_value cyI 1914 (upd wv y_6.toNatClampNeg y_7), kx_a q_number cyI 1914 wn, kx_3 q_joined j_v j_n js jl je, kx_a j_v cyI 12 jv, kx_a j_n cyI 12 jn]) hP hD rfl
          refine lv_aload_n hx hb dX2_keepJoined_41 rfl (lv_at hl 2 rfl) ?_
          refine va_get (D := (dC, dI)) (ci := 2) (v := .ref q_number) (C := RX2) (T := TX2) (N := 11) hx hb hts hi_2 hown hK hP 0 rfl rfl 8 (by decide) hf_37 (fun _ h9 => h9) rfl dX2_keepJoined_42 ?_
          refine lv_iload_n hx hb dX2_keepJoined_45 rfl (lv_at hl 1 rfl) ?_
          refine lv_iload_n hx hb dX2_keepJoined_46 rfl (lv_at hl 0 rfl) ?_
          refine lv_iadd hx hb dX2_keepJoined_47 ?_
          refine lv_topi (fun y_8 ey_8 => ?_)
          have i_8 : y_8.toInt = y_1.toInt + i.toInt := ki_add ey_8 rfl rfl (om_88 b0 i_1 LP1_h0) (om_96 b1 i_1 i_5)
          refine lv_aload_n hx hb dX2_keepJoined_48 rfl (lv_at hl 2 rfl) ?_
          refine va_get (D := (dC, dI)) (ci := 2) (v := .ref q_joined) (C := RX2) (T := TX2) (N := 11) hx hb hts hi_2 hown hK hP 0 rfl rfl 1 (by decide) hf_12 (fun _ h9 => h9) rfl dX2_keepJoined_49 ?_
          refine va_get (D := (dC, dI)) (ci := 3) (v := .ref j_n) (C := RX3) (T := TX3) (N := 5) hx hb hts hi_3 hown hK hP 6 rfl rfl 1 (by decide) hf_97 (fun _ h9 => h9) rfl dX2_keepJoined_52 ?_
          refine lv_iload_n hx hb dX2_keepJoined_55 rfl (lv_at hl 0 rfl) ?_
          refine va_iald hx hb hK hP 8 0 rfl rfl (ki_in (om_8 LP1_h0) (om_98 i_5)) dX2_keepJoined_56 ?_
          refine lv_topi (fun y_9 ey_9 => ?_)
          have j_9 : y_9.toInt = (jn i.toNatClampNeg).toInt := congrArg Int32.toInt ey_9
          refine va_iast hx hb hK hP hD hS 5 0 rfl rfl (ki_in (om_90 b0 i_1 LP1_h0 i_8) (om_97 b1 i_1 i_5 i_8)) dX2_keepJoined_57 (fun H locs hP hD hS => ?_)
          obtain ⟨hP, hD⟩ := kx_re (w2 := [kx_2 q_t q_row q_joined q_from q_to q_size q_lossOf q_lessBy q_value q_number nodes here, kx_a q_size cyI 319 fs, kx_a q_lossOf cyI 319 fo, kx_a q_lessBy cyI 319 fe, kx_a q_value cyI 1914 (upd wv y_6.toNatClampNeg y_7), kx_a q_number cyI 1914 (upd wn y_8.toNatClampNeg y_9), kx_3 q_joined j_v j_n js jl je, kx_a j_v cyI 12 jv, kx_a j_n cyI 12 jn]) hP hD rfl
          obtain ⟨x_10, ex_10⟩ : ∃ y : Int32, y = i + 1 := ⟨_, rfl⟩
          have i_10 : x_10.toInt = i.toInt + 1 := ki_add ex_10 rfl rfl (om_10 LP1_h0) (om_99 i_5)
          refine lv_iinc (v := x_10) (lv' := [(3, .int x_10), (2, .int y_1), (0, .ref q_t), (1, .int p0)]) hx hb dX2_keepJoined_58 hl (k := 0) rfl (by rw [ex_10]; rfl) (by decide) rfl (fun ls hl => ?_)
          refine lv_goto (tgt := 7) hx hb dX2_keepJoined_61 (by decide) ?_
          have n_11 := ki_nat y_6 rfl (om_90 b0 i_1 LP1_h0 i_6)
          have n_12 := ki_nat y_8 rfl (om_90 b0 i_1 LP1_h0 i_8)
          have n_13 := ki_nat x_10 rfl (om_31 LP1_h0 i_10)
          exact ih1 x_10 (upd wv y_6.toNatClampNeg y_7) (upd wn y_8.toNatClampNeg y_9) (om_31 LP1_h0 i_10) (om_47 i_2 i_10) (mj_kp_step LP1_h2 (by omega) (by omega) (by omega) ey_7 ey_9 (by omega)) (om_mu hn1 (om_93 i_10) (om_100 i_5)) _ _ hP hD hS ls (lv_sub hl [0, 1, 2, 3] rfl)
  have k_14 : (0 : Int32).toInt = 0 := rfl
  exact LP1 ((6 - 0 : Int).toNat + 1) 0 uv un om_32 (om_8 j0) (mj_kp_0 _ _ _ _ _ rfl) (Nat.lt_succ_self _) _ _ hP hD hS ls (lv_sub hl [0, 1, 2, 3] rfl)

set_option maxHeartbeats 4000000 in
set_option maxRecDepth 100000 in
theorem c_X2_isJoined_x (l : Launch) (dC : Nat → ClassId) (dI : Nat → Nat → Nat) (q_t : Nat) (q_row : Nat) (q_joined : Nat) (q_from : Nat) (q_to : Nat) (q_size : Nat) (q_lossOf : Nat) (q_lessBy : Nat) (q_value : Nat) (q_number : Nat) (nodes : Int32) (here : Int32) (cyI : ClassId) (fs : Nat → Int32) (fo : Nat → Int32) (uv : Nat → Int32) (un : Nat → Int32) (j_v : Nat) (j_n : Nat) (js : Int32) (jl : Int32) (je : Int32) (jv : Nat → Int32) (jn : Nat → Int32) (p0 : Int32) (b0 : 0 ≤ p0.toInt) (b1 : p0.toInt < 319) (j0 : 0 ≤ js.toInt) (j1 : js.toInt ≤ 6) : Met l yX2_isJoined wsX2_isJoined ({ frames := 0, cells := 0, slots := 0, locals := 0 }) (va_Pc [.ref q_t, .int p0] (fun U => va_P (dC, dI) vwCl [kx_2 q_t q_row q_joined q_from q_to q_size q_lossOf q_lessBy q_value q_number nodes here, kx_a q_size cyI 319 fs, kx_a q_lossOf cyI 319 fo, kx_a q_value cyI 1914 uv, kx_a q_number cyI 1914 un, kx_3 q_joined j_v j_n js jl je, kx_a j_v cyI 12 jv, kx_a j_n cyI 12 jn] U.heap ∧ va_K (dC, dI) vwCl [(cyI, .int)] U)) (vp_Si (fun r : Int32 => (r = 1 ∧ mj_sj fs fo uv un p0.toNatClampNeg js jl jv jn) ∨ (r = 0 ∧ ¬ mj_sj fs fo uv un p0.toNatClampNeg js jl jv jn))) 0 0 (fun _ => False) := by
  refine Met.ofW (cc := cX2_isJoined) (maxL := 4) (ret := (some .boolean)) (by decide) rfl ?_
  intro p e s m args below meth c s₁ B hml hv
  obtain ⟨rfl, hP, hK⟩ := hv
  have hx := B.exec
  have hb := B.bytes
  have hr := B.returns
  have hts := atoms_spec (ws := wsX2_isJoined) B.pre
  have hown : s.vm.findClass RX2 = some m.cls := findClass_of_methodNamed B.named
  have hlocks := B.notSynchronized
  have hP : va_P (dC, dI) vwCl [kx_2 q_t q_row q_joined q_from q_to q_size q_lossOf q_lessBy q_value q_number nodes here, kx_a q_size cyI 319 fs, kx_a q_lossOf cyI 319 fo, kx_a q_value cyI 1914 uv, kx_a q_number cyI 1914 un, kx_3 q_joined j_v j_n js jl je, kx_a j_v cyI 12 jv, kx_a j_n cyI 12 jn] s.heap := hP
  have hl := lv_entry ([.ref q_t, .int p0]) (n := 4) (Nat.le_of_ble_eq_true rfl)
  rw [lg_entry_eq]
  generalize (lg_sl ([.ref q_t, .int p0]) ++ List.replicate (4 - (lg_sl ([.ref q_t, .int p0])).length) Slot.unset).toArray = ls at hl ⊢
  have hl : lv_has ls 4 [(0, .ref q_t), (1, .int p0)] := hl
  have hf_25 := hts (.fieldLink RX2 25 "MajorityIndex$Tree" "size" "[I") (List.mem_of_getElem? (i := 1) rfl)
  have hi_2 : ∀ w ∈ u_ws RX2 TX2 11, w ∈ wsX2_isJoined := fun w h => List.mem_cons_of_mem _ (List.mem_append_left _ (List.mem_append_right _ h))
  have hf_12 := hts (.fieldLink RX2 12 "MajorityIndex$Tree" "joined" "LMajorityIndex$Votes;") (List.mem_of_getElem? (i := 2) rfl)
  have hf_94 := hts (.fieldLink RX2 94 "MajorityIndex$Votes" "size" "I") (List.mem_of_getElem? (i := 3) rfl)
  have hi_3 : ∀ w ∈ u_ws RX3 TX3 5, w ∈ wsX2_isJoined := fun w h => List.mem_cons_of_mem _ (List.mem_append_right _ h)
  have hf_28 := hts (.fieldLink RX2 28 "MajorityIndex$Tree" "lossOf" "[I") (List.mem_of_getElem? (i := 4) rfl)
  have hf_91 := hts (.fieldLink RX2 91 "MajorityIndex$Votes" "lost" "I") (List.mem_of_getElem? (i := 5) rfl)
  have hf_34 := hts (.fieldLink RX2 34 "MajorityIndex$Tree" "value" "[I") (List.mem_of_getElem? (i := 6) rfl)
  have hf_96 := hts (.fieldLink RX2 96 "MajorityIndex$Votes" "value" "[I") (List.mem_of_getElem? (i := 7) rfl)
  have hf_37 := hts (.fieldLink RX2 37 "MajorityIndex$Tree" "number" "[I") (List.mem_of_getElem? (i := 8) rfl)
  have hf_97 := hts (.fieldLink RX2 97 "MajorityIndex$Votes" "number" "[I") (List.mem_of_getElem? (i := 9) rfl)
  have n_p0 := ki_nat p0 rfl (om_8 b0)
  refine lv_aload_n hx hb dX2_isJoined_0 rfl (lv_at hl 0 rfl) ?_
  refine va_get (D := (dC, dI)) (ci := 2) (v := .ref q_size) (C := RX2) (T := TX2) (N := 11) hx hb hts hi_2 hown hK hP 0 rfl rfl 4 (by decide) hf_25 (fun _ h9 => h9) rfl dX2_isJoined_1 ?_
  refine lv_iload_n hx hb dX2_isJoined_4 rfl (lv_at hl 1 rfl) ?_
  refine va_iald hx hb hK hP 1 0 rfl rfl (ki_in (om_8 b0) (om_54 b1)) dX2_isJoined_5 ?_
  refine lv_topi (fun y_1 ey_1 => ?_)
  have j_1 : y_1.toInt = (fs p0.toNatClampNeg).toInt := congrArg Int32.toInt ey_1
  refine lv_aload_n hx hb dX2_isJoined_6 rfl (lv_at hl 0 rfl) ?_
  refine va_get (D := (dC, dI)) (ci := 2) (v := .ref q_joined) (C := RX2) (T := TX2) (N := 11) hx hb hts hi_2 hown hK hP 0 rfl rfl 1 (by decide) hf_12 (fun _ h9 => h9) rfl dX2_isJoined_7 ?_
  refine va_get (D := (dC, dI)) (ci := 3) (v := .int js) (C := RX3) (T := TX3) (N := 5) hx hb hts hi_3 hown hK hP 5 rfl rfl 2 (by decide) hf_94 (fun _ h9 => h9) rfl dX2_isJoined_10 ?_
  refine lv_icmp_ne (tgt := 32) hx hb dX2_isJoined_13 (by decide) (fun c_2 => ?_) (fun c_2 => ?_)
  · have i_2 : ¬ y_1.toInt = js.toInt := kc_ne c_2
    refine lv_iconst (v := 0) hx hb dX2_isJoined_32 (by decide) ?_
    have n_js := ki_nat js rfl (om_8 j0)
    exact W.zret (v := 0) hx hb hr (by decide) (fun t ht hW => ⟨0, rfl, (Or.inr ⟨rfl, fun h => c_2 (ey_1.trans h.1)⟩), ht⟩) (fun q hq => by cases hq) dX2_isJoined_33
  · have i_2 : y_1.toInt = js.toInt := kc_eq c_2
    refine lv_aload_n hx hb dX2_isJoined_16 rfl (lv_at hl 0 rfl) ?_
    refine va_get (D := (dC, dI)) (ci := 2) (v := .ref q_lossOf) (C := RX2) (T := TX2) (N := 11) hx hb hts hi_2 hown hK hP 0 rfl rfl 5 (by decide) hf_28 (fun _ h9 => h9) rfl dX2_isJoined_17 ?_
    refine lv_iload_n hx hb dX2_isJoined_20 rfl (lv_at hl 1 rfl) ?_
    refine va_iald hx hb hK hP 2 0 rfl rfl (ki_in (om_8 b0) (om_54 b1)) dX2_isJoined_21 ?_
    refine lv_topi (fun y_3 ey_3 => ?_)
    have j_3 : y_3.toInt = (fo p0.toNatClampNeg).toInt := congrArg Int32.toInt ey_3
    refine lv_aload_n hx hb dX2_isJoined_22 rfl (lv_at hl 0 rfl) ?_
    refine va_get (D := (dC, dI)) (ci := 2) (v := .ref q_joined) (C := RX2) (T := TX2) (N := 11) hx hb hts hi_2 hown hK hP 0 rfl rfl 1 (by decide) hf_12 (fun _ h9 => h9) rfl dX2_isJoined_23 ?_
    refine va_get (D := (dC, dI)) (ci := 3) (v := .int jl) (C := RX3) (T := TX3) (N := 5) hx hb hts hi_3 hown hK hP 5 rfl rfl 3 (by decide) hf_91 (fun _ h9 => h9) rfl dX2_isJoined_26 ?_
    refine lv_icmp_eq (tgt := 34) hx hb dX2_isJoined_29 (by decide) (fun c_4 => ?_) (fun c_4 => ?_)
    · have i_4 : y_3.toInt = jl.toInt := kc_eq c_4
      refine lv_iload_n hx hb dX2_isJoined_34 rfl (lv_at hl 1 rfl) ?_
      refine lv_bipush (v := 6) hx hb dX2_isJoined_35 (by decide) ?_
      refine lv_imul hx hb dX2_isJoined_37 ?_
      refine lv_topi (fun y_5 ey_5 => ?_)
      have i_5 : y_5.toInt = p0.toInt * 6 := ki_mul ey_5 rfl rfl (om_86 b0) (om_87 b1)
      refine lv_istore_n (lv' := [(2, .int y_5), (0, .ref q_t), (1, .int p0)]) hx hb dX2_isJoined_38 rfl hl (by decide) rfl (fun ls hl => ?_)
      refine lv_iconst (v := 0) hx hb dX2_isJoined_39 (by decide) ?_
      refine lv_istore_n (lv' := [(3, .int 0), (2, .int y_5), (0, .ref q_t), (1, .int p0)]) hx hb dX2_isJoined_40 rfl hl (by decide) rfl (fun ls hl => ?_)
      have LP1 : ∀ (n : Nat) (i : Int32), (0 ≤ i.toInt) → (i.toInt ≤ js.toInt) → (∀ m : Nat, m < i.toNatClampNeg → uv (6 * p0.toNatClampNeg + m) = jv m ∧ un (6 * p0.toNatClampNeg + m) = jn m) → (6 - i.toInt).toNat < n → ∀ (ls : Array Slot), lv_has ls 4 [(3, .int i), (2, .int y_5), (0, .ref q_t), (1, .int p0)] → W p l e (headSpec wsX2_isJoined ({ frames := 0, cells := 0, slots := 0, locals := 0 })).room s m ([.ref q_t, .int p0] : List Value).toArray below meth c s.heap [] 0 0 (MQ below (vp_Si (fun r : Int32 => (r = 1 ∧ mj_sj fs fo uv un p0.toNatClampNeg js jl jv jn) ∨ (r = 0 ∧ ¬ mj_sj fs fo uv un p0.toNatClampNeg js jl jv jn))) ([.ref q_t, .int p0] : List Value).toArray s 0 0 (fun _ => False)) (F0 m 41 ls []) := by
        intro n
        induction n with
        | zero => intro i LP1_h0 LP1_h1 LP1_h2 hn; exact absurd hn (Nat.not_lt_zero _)
        | succ n ih1 =>
          intro i LP1_h0 LP1_h1 LP1_h2 hn1 ls hl
          have n_i := ki_nat i rfl (om_8 LP1_h0)
          refine lv_iload_n hx hb dX2_isJoined_41 rfl (lv_at hl 0 rfl) ?_
          refine lv_aload_n hx hb dX2_isJoined_42 rfl (lv_at hl 2 rfl) ?_
          refine va_get (D := (dC, dI)) (ci := 2) (v := .ref q_joined) (C := RX2) (T := TX2) (N := 11) hx hb hts hi_2 hown hK hP 0 rfl rfl 1 (by decide) hf_12 (fun _ h9 => h9) rfl dX2_isJoined_43 ?_
          refine va_get (D := (dC, dI)) (ci := 3) (v := .int js) (C := RX3) (T := TX3) (N := 5) hx hb hts hi_3 hown hK hP 5 rfl rfl 2 (by decide) hf_94 (fun _ h9 => h9) rfl dX2_isJoined_46 ?_
          refine lv_icmp_ge (tgt := 106) hx hb dX2_isJoined_49 (by decide) (fun c_6 => ?_) (fun c_6 => ?_)
          · have i_6 : js.toInt ≤ i.toInt := kc_le c_6
            refine lv_iconst (v := 1) hx hb dX2_isJoined_106 (by decide) ?_
            have n_js := ki_nat js rfl (om_8 j0)
            exact W.zret (v := 1) hx hb hr (by decide) (fun t ht hW => ⟨1, rfl, (Or.inl ⟨rfl, ey_1.symm.trans c_2, ey_3.symm.trans c_4, fun m hm => LP1_h2 m (by omega)⟩), ht⟩) (fun q hq => by cases hq) dX2_isJoined_107
          · have i_6 : i.toInt < js.toInt := kc_nle c_6
            refine lv_iload_n hx hb dX2_isJoined_52 rfl (lv_at hl 0 rfl) ?_
            refine lv_bipush (v := 6) hx hb dX2_isJoined_53 (by decide) ?_
            refine lv_icmp_ge (tgt := 106) hx hb dX2_isJoined_55 (by decide) (fun c_7 => ?_) (fun c_7 => ?_)
            · have i_7 : 6 ≤ i.toInt := kc_le c_7
              exfalso; omega
            · have i_7 : i.toInt < 6 := kc_nle c_7
              refine lv_aload_n hx hb dX2_isJoined_58 rfl (lv_at hl 2 rfl) ?_
              refine va_get (D := (dC, dI)) (ci := 2) (v := .ref q_value) (C := RX2) (T := TX2) (N := 11) hx hb hts hi_2 hown hK hP 0 rfl rfl 7 (by decide) hf_34 (fun _ h9 => h9) rfl dX2_isJoined_59 ?_
              refine lv_iload_n hx hb dX2_isJoined_62 rfl (lv_at hl 1 rfl) ?_
              refine lv_iload_n hx hb dX2_isJoined_63 rfl (lv_at hl 0 rfl) ?_
              refine lv_iadd hx hb dX2_isJoined_64 ?_
              refine lv_topi (fun y_8 ey_8 => ?_)
              have i_8 : y_8.toInt = y_5.toInt + i.toInt := ki_add ey_8 rfl rfl (om_88 b0 i_5 LP1_h0) (om_96 b1 i_5 i_7)
              refine va_iald hx hb hK hP 3 0 rfl rfl (ki_in (om_90 b0 i_5 LP1_h0 i_8) (om_97 b1 i_5 i_7 i_8)) dX2_isJoined_65 ?_
              refine lv_topi (fun y_9 ey_9 => ?_)
              have j_9 : y_9.toInt = (uv y_8.toNatClampNeg).toInt := congrArg Int32.toInt ey_9
              refine lv_aload_n hx hb dX2_isJoined_66 rfl (lv_at hl 2 rfl) ?_
              refine va_get (D := (dC, dI)) (ci := 2) (v := .ref q_joined) (C := RX2) (T := TX2) (N := 11) hx hb hts hi_2 hown hK hP 0 rfl rfl 1 (by decide) hf_12 (fun _ h9 => h9) rfl dX2_isJoined_67 ?_
              refine va_get (D := (dC, dI)) (ci := 3) (v := .ref j_v) (C := RX3) (T := TX3) (N := 5) hx hb hts hi_3 hown hK hP 5 rfl rfl 0 (by decide) hf_96 (fun _ h9 => h9) rfl dX2_isJoined_70 ?_
              refine lv_iload_n hx hb dX2_isJoined_73 rfl (lv_at hl 0 rfl) ?_
              refine va_iald hx hb hK hP 6 0 rfl rfl (ki_in (om_8 LP1_h0) (om_98 i_7)) dX2_isJoined_74 ?_
              refine lv_topi (fun y_10 ey_10 => ?_)
              have j_10 : y_10.toInt = (jv i.toNatClampNeg).toInt := congrArg Int32.toInt ey_10
              refine lv_icmp_ne (tgt := 98) hx hb dX2_isJoined_75 (by decide) (fun c_11 => ?_) (fun c_11 => ?_)
              · have i_11 : ¬ y_9.toInt = y_10.toInt := kc_ne c_11
                refine lv_iconst (v := 0) hx hb dX2_isJoined_98 (by decide) ?_
                have n_js := ki_nat js rfl (om_8 j0)
                have n_12 := ki_nat y_8 rfl (om_90 b0 i_5 LP1_h0 i_8)
                exact W.zret (v := 0) hx hb hr (by decide) (fun t ht hW => ⟨0, rfl, (Or.inr ⟨rfl, fun h => c_11 (by have := (h.2.2 i.toNatClampNeg (by omega)).1; rw [show 6 * p0.toNatClampNeg + i.toNatClampNeg = y_8.toNatClampNeg by omega, ← ey_9, ← ey_10] at this; exact this)⟩), ht⟩) (fun q hq => by cases hq) dX2_isJoined_99
              · have i_11 : y_9.toInt = y_10.toInt := kc_eq c_11
                refine lv_aload_n hx hb dX2_isJoined_78 rfl (lv_at hl 2 rfl) ?_
                refine va_get (D := (dC, dI)) (ci := 2) (v := .ref q_number) (C := RX2) (T := TX2) (N := 11) hx hb hts hi_2 hown hK hP 0 rfl rfl 8 (by decide) hf_37 (fun _ h9 => h9) rfl dX2_isJoined_79 ?_
                refine lv_iload_n hx hb dX2_isJoined_82 rfl (lv_at hl 1 rfl) ?_
                refine lv_iload_n hx hb dX2_isJoined_83 rfl (lv_at hl 0 rfl) ?_
                refine lv_iadd hx hb dX2_isJoined_84 ?_
                refine lv_topi (fun y_13 ey_13 => ?_)
                have i_13 : y_13.toInt = y_5.toInt + i.toInt := ki_add ey_13 rfl rfl (om_88 b0 i_5 LP1_h0) (om_96 b1 i_5 i_7)
                refine va_iald hx hb hK hP 4 0 rfl rfl (ki_in (om_90 b0 i_5 LP1_h0 i_13) (om_97 b1 i_5 i_7 i_13)) dX2_isJoined_85 ?_
                refine lv_topi (fun y_14 ey_14 => ?_)
                have j_14 : y_14.toInt = (un y_13.toNatClampNeg).toInt := congrArg Int32.toInt ey_14
                refine lv_aload_n hx hb dX2_isJoined_86 rfl (lv_at hl 2 rfl) ?_
                refine va_get (D := (dC, dI)) (ci := 2) (v := .ref q_joined) (C := RX2) (T := TX2) (N := 11) hx hb hts hi_2 hown hK hP 0 rfl rfl 1 (by decide) hf_12 (fun _ h9 => h9) rfl dX2_isJoined_87 ?_
                refine va_get (D := (dC, dI)) (ci := 3) (v := .ref j_n) (C := RX3) (T := TX3) (N := 5) hx hb hts hi_3 hown hK hP 5 rfl rfl 1 (by decide) hf_97 (fun _ h9 => h9) rfl dX2_isJoined_90 ?_
                refine lv_iload_n hx hb dX2_isJoined_93 rfl (lv_at hl 0 rfl) ?_
                refine va_iald hx hb hK hP 7 0 rfl rfl (ki_in (om_8 LP1_h0) (om_98 i_7)) dX2_isJoined_94 ?_
                refine lv_topi (fun y_15 ey_15 => ?_)
                have j_15 : y_15.toInt = (jn i.toNatClampNeg).toInt := congrArg Int32.toInt ey_15
                refine lv_icmp_eq (tgt := 100) hx hb dX2_isJoined_95 (by decide) (fun c_16 => ?_) (fun c_16 => ?_)
                · have i_16 : y_14.toInt = y_15.toInt := kc_eq c_16
                  obtain ⟨x_17, ex_17⟩ : ∃ y : Int32, y = i + 1 := ⟨_, rfl⟩
                  have i_17 : x_17.toInt = i.toInt + 1 := ki_add ex_17 rfl rfl (om_10 LP1_h0) (om_99 i_7)
                  refine lv_iinc (v := x_17) (lv' := [(3, .int x_17), (2, .int y_5), (0, .ref q_t), (1, .int p0)]) hx hb dX2_isJoined_100 hl (k := 0) rfl (by rw [ex_17]; rfl) (by decide) rfl (fun ls hl => ?_)
                  refine lv_goto (tgt := 41) hx hb dX2_isJoined_103 (by decide) ?_
                  have n_18 := ki_nat y_8 rfl (om_90 b0 i_5 LP1_h0 i_8)
                  have n_19 := ki_nat y_13 rfl (om_90 b0 i_5 LP1_h0 i_13)
                  have n_20 := ki_nat x_17 rfl (om_31 LP1_h0 i_17)
                  exact ih1 x_17 (om_31 LP1_h0 i_17) (om_47 i_6 i_17) (fun m hm => if h9 : m < i.toNatClampNeg then LP1_h2 m h9 else (by rw [show m = i.toNatClampNeg by omega, show 6 * p0.toNatClampNeg + i.toNatClampNeg = y_8.toNatClampNeg by omega, ← ey_9, ← ey_10]; exact ⟨c_11, (by rw [show y_8.toNatClampNeg = y_13.toNatClampNeg by omega, ← ey_14, ← ey_15]; exact c_16)⟩)) (om_mu hn1 (om_93 i_17) (om_100 i_7)) ls (lv_sub hl [0, 1, 2, 3] rfl)
                · have i_16 : ¬ y_14.toInt = y_15.toInt := kc_ne c_16
                  refine lv_iconst (v := 0) hx hb dX2_isJoined_98 (by decide) ?_
                  have n_js := ki_nat js rfl (om_8 j0)
                  have n_21 := ki_nat y_8 rfl (om_90 b0 i_5 LP1_h0 i_8)
                  have n_22 := ki_nat y_13 rfl (om_90 b0 i_5 LP1_h0 i_13)
                  exact W.zret (v := 0) hx hb hr (by decide) (fun t ht hW => ⟨0, rfl, (Or.inr ⟨rfl, fun h => c_16 (by have := (h.2.2 i.toNatClampNeg (by omega)).2; rw [show 6 * p0.toNatClampNeg + i.toNatClampNeg = y_13.toNatClampNeg by omega, ← ey_14, ← ey_15] at this; exact this)⟩), ht⟩) (fun q hq => by cases hq) dX2_isJoined_99
      have k_23 : (0 : Int32).toInt = 0 := rfl
      exact LP1 ((6 - 0 : Int).toNat + 1) 0 om_32 (om_8 j0) (fun m hm => absurd hm (Nat.not_lt_zero m)) (Nat.lt_succ_self _) ls (lv_sub hl [0, 1, 2, 3] rfl)
    · have i_4 : ¬ y_3.toInt = jl.toInt := kc_ne c_4
      refine lv_iconst (v := 0) hx hb dX2_isJoined_32 (by decide) ?_
      have n_js := ki_nat js rfl (om_8 j0)
      exact W.zret (v := 0) hx hb hr (by decide) (fun t ht hW => ⟨0, rfl, (Or.inr ⟨rfl, fun h => c_4 (ey_3.trans h.2.1)⟩), ht⟩) (fun q hq => by cases hq) dX2_isJoined_33



set_option maxHeartbeats 4000000 in
set_option maxRecDepth 100000 in
theorem c_X2_renew_x (l : Launch) (dC : Nat → ClassId) (dI : Nat → Nat → Nat) (q_t : Nat) (q_row : Nat) (q_joined : Nat) (q_from : Nat) (q_to : Nat) (q_size : Nat) (q_lossOf : Nat) (q_lessBy : Nat) (q_value : Nat) (q_number : Nat) (nodes : Int32) (here : Int32) (q_cell : Nat) (cyI : ClassId) (len : Int32) (f : Nat → Int32) (ff : Nat → Int32) (ft : Nat → Int32) (fs : Nat → Int32) (fo : Nat → Int32) (uv : Nat → Int32) (un : Nat → Int32) (fe : Nat → Int32) (j_v : Nat) (j_n : Nat) (js : Int32) (jl : Int32) (je : Int32) (jv : Nat → Int32) (jn : Nat → Int32) (p0 : Int32) (p1 : Int32) (sz : Nat) (b0 : 0 ≤ nodes.toInt) (c0 : nodes.toInt ≤ 319) (c1 : len.toInt ≤ 160) (s0 : sixes fs) (t0 : treeOk ff ft nodes.toInt len.toInt) (k0 : 1 ≤ here.toInt) (k1 : here.toInt ≤ 6) (hcr : mj_cr ff ft nodes.toInt) (hOld : ∀ k : Nat, (k : Int) < nodes.toInt → ¬ mj_hit ff ft p0.toInt p1.toInt k → mj_ok here.toNatClampNeg f ff ft fs fo fe uv un k) : Met l yX2_renew wsX2_renew ({ frames := 4, cells := 0, slots := 0, locals := 180 }) (va_Pc [.ref q_t, .int p0, .int p1] (fun U => U.heap.size = sz ∧ va_P (dC, dI) vwCl [kx_2 q_t q_row q_joined q_from q_to q_size q_lossOf q_lessBy q_value q_number nodes here, kx_0 q_row q_cell len, kx_a q_cell cyI 160 f, kx_a q_from cyI 319 ff, kx_a q_to cyI 319 ft, kx_a q_size cyI 319 fs, kx_a q_lossOf cyI 319 fo, kx_a q_lessBy cyI 319 fe, kx_a q_value cyI 1914 uv, kx_a q_number cyI 1914 un, kx_3 q_joined j_v j_n js jl je, kx_a j_v cyI 12 jv, kx_a j_n cyI 12 jn] U.heap ∧ va_K (dC, dI) vwCl [(cyI, .int)] U ∧ va_D (fun _ => True) [kx_2 q_t q_row q_joined q_from q_to q_size q_lossOf q_lessBy q_value q_number nodes here, kx_0 q_row q_cell len, kx_a q_cell cyI 160 f, kx_a q_from cyI 319 ff, kx_a q_to cyI 319 ft, kx_a q_size cyI 319 fs, kx_a q_lossOf cyI 319 fo, kx_a q_lessBy cyI 319 fe, kx_a q_value cyI 1914 uv, kx_a q_number cyI 1914 un, kx_3 q_joined j_v j_n js jl je, kx_a j_v cyI 12 jv, kx_a j_n cyI 12 jn])) (va_Qi (fun (r : Int32) (u : (Nat → Int32) × (Nat → Int32) × (Nat → Int32) × (Nat → Int32) × (Nat → Int32) × Int32 × Int32 × Int32 × (Nat → Int32) × (Nat → Int32)) => sixes u.1 ∧ ∀ k : Nat, (k : Int) < nodes.toInt → mj_ok here.toNatClampNeg f ff ft u.1 u.2.1 u.2.2.1 u.2.2.2.1 u.2.2.2.2.1 k) (fun (u : (Nat → Int32) × (Nat → Int32) × (Nat → Int32) × (Nat → Int32) × (Nat → Int32) × Int32 × Int32 × Int32 × (Nat → Int32) × (Nat → Int32)) (t : State) => va_P (dC, dI) vwCl [kx_2 q_t q_row q_joined q_from q_to q_size q_lossOf q_lessBy q_value q_number nodes here, kx_0 q_row q_cell len, kx_a q_cell cyI 160 f, kx_a q_from cyI 319 ff, kx_a q_to cyI 319 ft, kx_a q_size cyI 319 u.1, kx_a q_lossOf cyI 319 u.2.1, kx_a q_lessBy cyI 319 u.2.2.1, kx_a q_value cyI 1914 u.2.2.2.1, kx_a q_number cyI 1914 u.2.2.2.2.1, kx_3 q_joined j_v j_n u.2.2.2.2.2.1 u.2.2.2.2.2.2.1 u.2.2.2.2.2.2.2.1, kx_a j_v cyI 12 u.2.2.2.2.2.2.2.2.1, kx_a j_n cyI 12 u.2.2.2.2.2.2.2.2.2] t.heap ∧ va_K (dC, dI) vwCl [(cyI, .int)] t ∧ va_D (va_A [kx_2 q_t q_row q_joined q_from q_to q_size q_lossOf q_lessBy q_value q_number nodes here, kx_0 q_row q_cell len, kx_a q_cell cyI 160 f, kx_a q_from cyI 319 ff, kx_a q_to cyI 319 ft, kx_a q_size cyI 319 fs, kx_a q_lossOf cyI 319 fo, kx_a q_lessBy cyI 319 fe, kx_a q_value cyI 1914 uv, kx_a q_number cyI 1914 un, kx_3 q_joined j_v j_n js jl je, kx_a j_v cyI 12 jv, kx_a j_n cyI 12 jn] sz) [kx_2 q_t q_row q_joined q_from q_to q_size q_lossOf q_lessBy q_value q_number nodes here, kx_0 q_row q_cell len, kx_a q_cell cyI 160 f, kx_a q_from cyI 319 ff, kx_a q_to cyI 319 ft, kx_a q_size cyI 319 u.1, kx_a q_lossOf cyI 319 u.2.1, kx_a q_lessBy cyI 319 u.2.2.1, kx_a q_value cyI 1914 u.2.2.2.1, kx_a q_number cyI 1914 u.2.2.2.2.1, kx_3 q_joined j_v j_n u.2.2.2.2.2.1 u.2.2.2.2.2.2.1 u.2.2.2.2.2.2.2.1, kx_a j_v cyI 12 u.2.2.2.2.2.2.2.2.1, kx_a j_n cyI 12 u.2.2.2.2.2.2.2.2.2]) (va_A [kx_2 q_t q_row q_joined q_from q_to q_size q_lossOf q_lessBy q_value q_number nodes here, kx_0 q_row q_cell len, kx_a q_cell cyI 160 f, kx_a q_from cyI 319 ff, kx_a q_to cyI 319 ft, kx_a q_size cyI 319 fs, kx_a q_lossOf cyI 319 fo, kx_a q_lessBy cyI 319 fe, kx_a q_value cyI 1914 uv, kx_a q_number cyI 1914 un, kx_3 q_joined j_v j_n js jl je, kx_a j_v cyI 12 jv, kx_a j_n cyI 12 jn] sz)) 0 0 (va_A [kx_2 q_t q_row q_joined q_from q_to q_size q_lossOf q_lessBy q_value q_number nodes here, kx_0 q_row q_cell len, kx_a q_cell cyI 160 f, kx_a q_from cyI 319 ff, kx_a q_to cyI 319 ft, kx_a q_size cyI 319 fs, kx_a q_lossOf cyI 319 fo, kx_a q_lessBy cyI 319 fe, kx_a q_value cyI 1914 uv, kx_a q_number cyI 1914 un, kx_3 q_joined j_v j_n js jl je, kx_a j_v cyI 12 jv, kx_a j_n cyI 12 jn] sz) := by
  refine Met.ofW (cc := cX2_renew) (maxL := 5) (ret := (some .int)) (by decide) rfl ?_
  intro p e s m args below meth c s₁ B hml hv
  obtain ⟨rfl, hsz, hP, hK, hD0⟩ := hv
  have hx := B.exec
  have hb := B.bytes
  have hr := B.returns
  have hts := atoms_spec (ws := wsX2_renew) B.pre
  have hown : s.vm.findClass RX2 = some m.cls := findClass_of_methodNamed B.named
  have hlocks := B.notSynchronized
  subst hsz
  have hD := hD0.self (sz := s.heap.size)
  generalize hAe : va_A [kx_2 q_t q_row q_joined q_from q_to q_size q_lossOf q_lessBy q_value q_number nodes here, kx_0 q_row q_cell len, kx_a q_cell cyI 160 f, kx_a q_from cyI 319 ff, kx_a q_to cyI 319 ft, kx_a q_size cyI 319 fs, kx_a q_lossOf cyI 319 fo, kx_a q_lessBy cyI 319 fe, kx_a q_value cyI 1914 uv, kx_a q_number cyI 1914 un, kx_3 q_joined j_v j_n js jl je, kx_a j_v cyI 12 jv, kx_a j_n cyI 12 jn] s.heap.size = A at hD ⊢
  have hA : ∀ q : Nat, s.heap.size ≤ q → A q := fun q h => by rw [← hAe]; exact Or.inr h
  have hS : va_S A s.heap s.heap [] := va_S.rf
  have hP : va_P (dC, dI) vwCl [kx_2 q_t q_row q_joined q_from q_to q_size q_lossOf q_lessBy q_value q_number nodes here, kx_0 q_row q_cell len, kx_a q_cell cyI 160 f, kx_a q_from cyI 319 ff, kx_a q_to cyI 319 ft, kx_a q_size cyI 319 fs, kx_a q_lossOf cyI 319 fo, kx_a q_lessBy cyI 319 fe, kx_a q_value cyI 1914 uv, kx_a q_number cyI 1914 un, kx_3 q_joined j_v j_n js jl je, kx_a j_v cyI 12 jv, kx_a j_n cyI 12 jn] s.heap := hP
  have hl := lv_entry ([.ref q_t, .int p0, .int p1]) (n := 5) (Nat.le_of_ble_eq_true rfl)
  rw [lg_entry_eq]
  generalize (lg_sl ([.ref q_t, .int p0, .int p1]) ++ List.replicate (5 - (lg_sl ([.ref q_t, .int p0, .int p1])).length) Slot.unset).toArray = ls at hl ⊢
  have hl : lv_has ls 5 [(0, .ref q_t), (1, .int p0), (2, .int p1)] := hl
  have hf_50 := hts (.fieldLink RX2 50 "MajorityIndex$Tree" "nodes" "I") (List.mem_of_getElem? (i := 1) rfl)
  have hi_2 : ∀ w ∈ u_ws RX2 TX2 11, w ∈ wsX2_renew := fun w h => List.mem_cons_of_mem _ (List.mem_append_left _ (List.mem_append_left _ (List.mem_append_right _ h)))
  have hf_18 := hts (.fieldLink RX2 18 "MajorityIndex$Tree" "from" "[I") (List.mem_of_getElem? (i := 2) rfl)
  have hf_22 := hts (.fieldLink RX2 22 "MajorityIndex$Tree" "to" "[I") (List.mem_of_getElem? (i := 3) rfl)
  refine lv_iconst (v := 0) hx hb dX2_renew_0 (by decide) ?_
  refine lv_istore_n (lv' := [(3, .int 0), (0, .ref q_t), (1, .int p0), (2, .int p1)]) hx hb dX2_renew_1 rfl hl (by decide) rfl (fun ls hl => ?_)
  refine lv_aload_n hx hb dX2_renew_2 rfl (lv_at hl 1 rfl) ?_
  refine va_get (D := (dC, dI)) (ci := 2) (v := .int nodes) (C := RX2) (T := TX2) (N := 11) hx hb hts hi_2 hown hK hP 0 rfl rfl 9 (by decide) hf_50 (fun _ h9 => h9) rfl dX2_renew_3 ?_
  refine lv_iconst (v := 1) hx hb dX2_renew_6 (by decide) ?_
  refine lv_isub hx hb dX2_renew_7 ?_
  refine lv_topi (fun y_1 ey_1 => ?_)
  have i_1 : y_1.toInt = nodes.toInt - 1 := ki_sub ey_1 rfl rfl (om_104 b0) (om_105 c0)
  refine lv_istore (lv' := [(4, .int y_1), (3, .int 0), (0, .ref q_t), (1, .int p0), (2, .int p1)]) hx hb dX2_renew_8 hl (by decide) rfl (fun ls hl => ?_)
  have LP1 : ∀ (n : Nat) (oth : Int32) (i : Int32) (ks : Nat → Int32) (ko : Nat → Int32) (ke : Nat → Int32) (kv : Nat → Int32) (kn : Nat → Int32) (kj : Int32) (kl : Int32) (kb : Int32) (kjv : Nat → Int32) (kjn : Nat → Int32), (i.toInt < nodes.toInt) → (-1 ≤ i.toInt) → (mj_rn here.toNatClampNeg f ff ft fs fo fe uv un ks ko ke kv kn p0.toInt p1.toInt nodes.toInt (i.toInt + 1).toNat) → (sixes ks) → (i.toInt + 1).toNat < n → ∀ (H : Heap) (locs : List Loc), va_P (dC, dI) vwCl [kx_2 q_t q_row q_joined q_from q_to q_size q_lossOf q_lessBy q_value q_number nodes here, kx_0 q_row q_cell len, kx_a q_cell cyI 160 f, kx_a q_from cyI 319 ff, kx_a q_to cyI 319 ft, kx_a q_size cyI 319 ks, kx_a q_lossOf cyI 319 ko, kx_a q_lessBy cyI 319 ke, kx_a q_value cyI 1914 kv, kx_a q_number cyI 1914 kn, kx_3 q_joined j_v j_n kj kl kb, kx_a j_v cyI 12 kjv, kx_a j_n cyI 12 kjn] H → va_D A [kx_2 q_t q_row q_joined q_from q_to q_size q_lossOf q_lessBy q_value q_number nodes here, kx_0 q_row q_cell len, kx_a q_cell cyI 160 f, kx_a q_from cyI 319 ff, kx_a q_to cyI 319 ft, kx_a q_size cyI 319 ks, kx_a q_lossOf cyI 319 ko, kx_a q_lessBy cyI 319 ke, kx_a q_value cyI 1914 kv, kx_a q_number cyI 1914 kn, kx_3 q_joined j_v j_n kj kl kb, kx_a j_v cyI 12 kjv, kx_a j_n cyI 12 kjn] → va_S A s.heap H locs → ∀ (ls : Array Slot), lv_has ls 5 [(4, .int i), (3, .int oth), (0, .ref q_t), (1, .int p0), (2, .int p1)] → W p l e (headSpec wsX2_renew ({ frames := 4, cells := 0, slots := 0, locals := 180 })).room s m ([.ref q_t, .int p0, .int p1] : List Value).toArray below meth c H locs 0 0 (MQ below (va_Qi (fun (r : Int32) (u : (Nat → Int32) × (Nat → Int32) × (Nat → Int32) × (Nat → Int32) × (Nat → Int32) × Int32 × Int32 × Int32 × (Nat → Int32) × (Nat → Int32)) => sixes u.1 ∧ ∀ k : Nat, (k : Int) < nodes.toInt → mj_ok here.toNatClampNeg f ff ft u.1 u.2.1 u.2.2.1 u.2.2.2.1 u.2.2.2.2.1 k) (fun (u : (Nat → Int32) × (Nat → Int32) × (Nat → Int32) × (Nat → Int32) × (Nat → Int32) × Int32 × Int32 × Int32 × (Nat → Int32) × (Nat → Int32)) (t : State) => va_P (dC, dI) vwCl [kx_2 q_t q_row q_joined q_from q_to q_size q_lossOf q_lessBy q_value q_number nodes here, kx_0 q_row q_cell len, kx_a q_cell cyI 160 f, kx_a q_from cyI 319 ff, kx_a q_to cyI 319 ft, kx_a q_size cyI 319 u.1, kx_a q_lossOf cyI 319 u.2.1, kx_a q_lessBy cyI 319 u.2.2.1, kx_a q_value cyI 1914 u.2.2.2.1, kx_a q_number cyI 1914 u.2.2.2.2.1, kx_3 q_joined j_v j_n u.2.2.2.2.2.1 u.2.2.2.2.2.2.1 u.2.2.2.2.2.2.2.1, kx_a j_v cyI 12 u.2.2.2.2.2.2.2.2.1, kx_a j_n cyI 12 u.2.2.2.2.2.2.2.2.2] t.heap ∧ va_K (dC, dI) vwCl [(cyI, .int)] t ∧ va_D A [kx_2 q_t q_row q_joined q_from q_to q_size q_lossOf q_lessBy q_value q_number nodes here, kx_0 q_row q_cell len, kx_a q_cell cyI 160 f, kx_a q_from cyI 319 ff, kx_a q_to cyI 319 ft, kx_a q_size cyI 319 u.1, kx_a q_lossOf cyI 319 u.2.1, kx_a q_lessBy cyI 319 u.2.2.1, kx_a q_value cyI 1914 u.2.2.2.1, kx_a q_number cyI 1914 u.2.2.2.2.1, kx_3 q_joined j_v j_n u.2.2.2.2.2.1 u.2.2.2.2.2.2.1 u.2.2.2.2.2.2.2.1, kx_a j_v cyI 12 u.2.2.2.2.2.2.2.2.1, kx_a j_n cyI 12 u.2.2.2.2.2.2.2.2.2]) A) ([.ref q_t, .int p0, .int p1] : List Value).toArray s 0 0 A) (F0 m 10 ls []) := by
    intro n
    induction n with
    | zero => intro oth i ks ko ke kv kn kj kl kb kjv kjn LP1_h0 LP1_h1 LP1_h2 LP1_h3 hn; exact absurd hn (Nat.not_lt_zero _)
    | succ n ih1 =>
      intro oth i ks ko ke kv kn kj kl kb kjv kjn LP1_h0 LP1_h1 LP1_h2 LP1_h3 hn1 H locs hP hD hS ls hl
      refine lv_iload hx hb dX2_renew_10 (lv_at hl 0 rfl) ?_
      refine lv_if_lt (tgt := 67) hx hb dX2_renew_12 (by decide) (fun c_2 => ?_) (fun c_2 => ?_)
      · have i_2 : i.toInt < 0 := kc_lt c_2
        refine lv_iload_n hx hb dX2_renew_67 rfl (lv_at hl 1 rfl) ?_
        have hP9 := hP
        have hD9 := hD
        have hK9 := hK
        exact W.iret (v := oth) hx hb hr (fun t ht hW => ⟨⟨oth, (ks, ko, ke, kv, kn, kj, kl, kb, kjv, kjn), rfl, ⟨LP1_h3, fun k hk => LP1_h2.1 k (by (try dsimp only); omega) hk⟩, by rw [ht]; exact hP9, va_K.moved hW.alike hK9, hD9⟩, hS.F ht⟩) hS.2.2 dX2_renew_68
      · have i_2 : 0 ≤ i.toInt := kc_nlt c_2
        have n_i := ki_nat i rfl (om_8 i_2)
        have n_h := ki_nat here rfl (om_44 k0)
        have hti := t0 i.toNatClampNeg (by omega)
        unfold okAt at hti
        refine lv_aload_n hx hb dX2_renew_15 rfl (lv_at hl 2 rfl) ?_
        refine va_get (D := (dC, dI)) (ci := 2) (v := .ref q_from) (C := RX2) (T := TX2) (N := 11) hx hb hts hi_2 hown hK hP 0 rfl rfl 2 (by decide) hf_18 (fun _ h9 => h9) rfl dX2_renew_16 ?_
        refine lv_iload hx hb dX2_renew_19 (lv_at hl 0 rfl) ?_
        refine va_iald hx hb hK hP 3 0 rfl rfl (ki_in (om_8 i_2) (om_106 c0 LP1_h0)) dX2_renew_21 ?_
        refine lv_topi (fun y_3 ey_3 => ?_)
        have j_3 : y_3.toInt = (ff i.toNatClampNeg).toInt := congrArg Int32.toInt ey_3
        refine lv_iload_n hx hb dX2_renew_22 rfl (lv_at hl 4 rfl) ?_
        refine lv_icmp_ge (tgt := 61) hx hb dX2_renew_23 (by decide) (fun c_4 => ?_) (fun c_4 => ?_)
        · have i_4 : p1.toInt ≤ y_3.toInt := kc_le c_4
          obtain ⟨x_5, ex_5⟩ : ∃ y : Int32, y = i + (-1) := ⟨_, rfl⟩
          have i_5 : x_5.toInt = i.toInt + (-1) := ki_add ex_5 rfl rfl (om_107 i_2) (om_108 c0 LP1_h0)
          refine lv_iinc (v := x_5) (lv' := [(4, .int x_5), (3, .int oth), (0, .ref q_t), (1, .int p0), (2, .int p1)]) hx hb dX2_renew_61 hl (k := 0) rfl (by rw [ex_5]; rfl) (by decide) rfl (fun ls hl => ?_)
          refine lv_goto (tgt := 10) hx hb dX2_renew_64 (by decide) ?_
          exact ih1 oth x_5 ks ko ke kv kn kj kl kb kjv kjn (om_109 LP1_h0 i_5) (om_110 i_2 i_5) (by rw [show (x_5.toInt + 1).toNat = i.toNatClampNeg by omega]; exact mj_rn_skip LP1_h2 t0 hOld (by omega) (by omega) (fun h => by unfold mj_hit at h; omega)) LP1_h3 (om_mu hn1 (om_111 i_5) (om_112 i_2)) _ _ hP hD hS ls (lv_sub hl [0, 1, 2, 3, 4] rfl)
        · have i_4 : y_3.toInt < p1.toInt := kc_nle c_4
          refine lv_iload_n hx hb dX2_renew_26 rfl (lv_at hl 3 rfl) ?_
          refine lv_aload_n hx hb dX2_renew_27 rfl (lv_at hl 2 rfl) ?_
          refine va_get (D := (dC, dI)) (ci := 2) (v := .ref q_to) (C := RX2) (T := TX2) (N := 11) hx hb hts hi_2 hown hK hP 0 rfl rfl 3 (by decide) hf_22 (fun _ h9 => h9) rfl dX2_renew_28 ?_
          refine lv_iload hx hb dX2_renew_31 (lv_at hl 0 rfl) ?_
          refine va_iald hx hb hK hP 4 0 rfl rfl (ki_in (om_8 i_2) (om_106 c0 LP1_h0)) dX2_renew_33 ?_
          refine lv_topi (fun y_6 ey_6 => ?_)
          have j_6 : y_6.toInt = (ft i.toNatClampNeg).toInt := congrArg Int32.toInt ey_6
          refine lv_icmp_ge (tgt := 61) hx hb dX2_renew_34 (by decide) (fun c_7 => ?_) (fun c_7 => ?_)
          · have i_7 : y_6.toInt ≤ p0.toInt := kc_le c_7
            obtain ⟨x_8, ex_8⟩ : ∃ y : Int32, y = i + (-1) := ⟨_, rfl⟩
            have i_8 : x_8.toInt = i.toInt + (-1) := ki_add ex_8 rfl rfl (om_107 i_2) (om_108 c0 LP1_h0)
            refine lv_iinc (v := x_8) (lv' := [(4, .int x_8), (3, .int oth), (0, .ref q_t), (1, .int p0), (2, .int p1)]) hx hb dX2_renew_61 hl (k := 0) rfl (by rw [ex_8]; rfl) (by decide) rfl (fun ls hl => ?_)
            refine lv_goto (tgt := 10) hx hb dX2_renew_64 (by decide) ?_
            exact ih1 oth x_8 ks ko ke kv kn kj kl kb kjv kjn (om_109 LP1_h0 i_8) (om_110 i_2 i_8) (by rw [show (x_8.toInt + 1).toNat = i.toNatClampNeg by omega]; exact mj_rn_skip LP1_h2 t0 hOld (by omega) (by omega) (fun h => by unfold mj_hit at h; omega)) LP1_h3 (om_mu hn1 (om_111 i_8) (om_112 i_2)) _ _ hP hD hS ls (lv_sub hl [0, 1, 2, 3, 4] rfl)
          · have i_7 : p0.toInt < y_6.toInt := kc_nle c_7
            have hch := mj_ch_of (K := here.toNatClampNeg) (f := f) (fs := ks) (fo := ko) (fe := ke) (uv := kv) (un := kn) t0 hcr (k := i.toNatClampNeg) (by omega) (fun j h1 h2 => LP1_h2.1 j (by omega) h2)
            refine lv_aload_n hx hb dX2_renew_37 rfl (lv_at hl 2 rfl) ?_
            refine lv_iload hx hb dX2_renew_38 (lv_at hl 0 rfl) ?_
            obtain ⟨hPc, hDc, hFc, hCc⟩ := kx_pre (wc := [kx_2 q_t q_row q_joined q_from q_to q_size q_lossOf q_lessBy q_value q_number nodes here, kx_0 q_row q_cell len, kx_a q_cell cyI 160 f, kx_a q_from cyI 319 ff, kx_a q_to cyI 319 ft, kx_a q_size cyI 319 ks, kx_a q_lossOf cyI 319 ko, kx_a q_value cyI 1914 kv, kx_a q_number cyI 1914 kn, kx_3 q_joined j_v j_n kj kl kb, kx_a j_v cyI 12 kjv, kx_a j_n cyI 12 kjn]) hP hD hS hA [0, 1, 2, 3, 4, 5, 6, 8, 9, 10, 11, 12] (by decide) rfl
            have hKc := hK
            refine va_callv (va_runV (As := [.int i]) (rest := []) ⟨hx, hb, hml, hown, hts⟩ (c_X2_putTogether_x l dC dI q_t q_row q_joined q_from q_to q_size q_lossOf q_lessBy q_value q_number nodes here q_cell cyI len f ff ft ks ko kv kn ke j_v j_n kj kl kb kjv kjn i H.size i_2 LP1_h0 c0 c1 t0 k0 k1 hch) (cwV 1 hts gX2_renew_X2_putTogether rfl rfl rfl (by decide +kernel) ⟨Nat.le_of_ble_eq_true rfl, Nat.le_of_ble_eq_true rfl⟩) ⟨fun a U g mk q => by obtain ⟨q0, q1, qP, qK, qD⟩ := q; exact ⟨q0, q1, qP, va_K.moved (u := U) (U := U.calling g mk a) (Vm.Alike.refl U.vm) qK, qD⟩, va_recv hKc hPc (ci := 2) (q0 := 0) rfl rfl, fun U hU hW => ⟨rfl, by rw [hU], by rw [hU]; exact hPc, va_K.moved hW.alike hKc, hDc.weaken (fun _ _ _ _ => trivial)⟩⟩ rfl rfl hl.1 rfl (lv_room (Nat.le_of_ble_eq_true rfl)) dX2_renew_40 ⟨Nat.le_of_ble_eq_true rfl, Nat.le_of_ble_eq_true rfl⟩) hS (fun q _ h => hFc q h) hFc (fun u t H1 locs ht hvm w_9 hB hz1 hk1 hS => ?_)
            obtain ⟨o_10, o_11, o_12, o_13, o_14, o_15⟩ := u
            dsimp only at w_9 hB
            obtain ⟨hP1, hK1, hD1⟩ := hB
            rw [ht] at hP1
            have hK1 := va_K.moved hvm.symm hK1
            obtain ⟨hP, hD⟩ := kx_join (w2 := [kx_a q_lessBy cyI 319 ke, kx_2 q_t q_row q_joined q_from q_to q_size q_lossOf q_lessBy q_value q_number nodes here, kx_0 q_row q_cell len, kx_a q_cell cyI 160 f, kx_a q_from cyI 319 ff, kx_a q_to cyI 319 ft, kx_a q_size cyI 319 ks, kx_a q_lossOf cyI 319 ko, kx_a q_value cyI 1914 kv, kx_a q_number cyI 1914 kn, kx_3 q_joined j_v j_n o_10 o_11 o_12, kx_a j_v cyI 12 o_13, kx_a j_n cyI 12 o_14]) hP hD hP1 hD1 hk1 hFc [0, 1, 2, 3, 4, 5, 6, 8, 9, 10, 11, 12] [7] hCc rfl (by decide) (by decide)
            clear hP1 hD1 hK1 hk1 hz1 hFc hDc hPc hKc hCc
            generalize H1 = H at hP hS ⊢
            have w_9 : mj_jn here.toNatClampNeg f ff ft ks ko ke kv kn i.toNatClampNeg o_15 o_11 o_12 ∧ mj_vs o_13 o_14 0 o_10.toNatClampNeg o_15 ∧ mj_srt o_13 o_14 0 o_10.toNatClampNeg ∧ 0 ≤ o_10.toInt ∧ o_10.toInt ≤ here.toInt := w_9
            refine lv_aload_n hx hb dX2_renew_43 rfl (lv_at hl 2 rfl) ?_
            refine lv_iload hx hb dX2_renew_44 (lv_at hl 0 rfl) ?_
            have hPc := hP.sub (ws' := [kx_2 q_t q_row q_joined q_from q_to q_size q_lossOf q_lessBy q_value q_number nodes here, kx_a q_size cyI 319 ks, kx_a q_lossOf cyI 319 ko, kx_a q_value cyI 1914 kv, kx_a q_number cyI 1914 kn, kx_3 q_joined j_v j_n o_10 o_11 o_12, kx_a j_v cyI 12 o_13, kx_a j_n cyI 12 o_14]) [1, 6, 7, 8, 9, 10, 11, 12] rfl
            have hKc := hK
            refine vp_callSi (W.runV (As := [.int i]) (rest := []) ⟨hx, hb, hml, hown, hts⟩ (c_X2_isJoined_x l dC dI q_t q_row q_joined q_from q_to q_size q_lossOf q_lessBy q_value q_number nodes here cyI ks ko kv kn j_v j_n o_10 o_11 o_12 o_13 o_14 i i_2 (om_113 c0 LP1_h0) w_9.2.2.2.1 (om_456 k1 w_9.2.2.2.2)) (cwV 1 hts gX2_renew_X2_isJoined rfl rfl rfl (by decide +kernel) ⟨Nat.le_of_ble_eq_true rfl, Nat.le_of_ble_eq_true rfl⟩) ⟨fun a U g mk q => by obtain ⟨q0, qP, qK⟩ := q; exact ⟨q0, qP, va_K.moved (u := U) (U := U.calling g mk a) (Vm.Alike.refl U.vm) qK⟩, va_recv hKc hPc (ci := 2) (q0 := 0) rfl rfl, fun U hU hW => ⟨rfl, by rw [hU]; exact hPc, va_K.moved hW.alike hKc⟩⟩ rfl rfl hl.1 rfl (lv_room (Nat.le_of_ble_eq_true rfl)) dX2_renew_46 ⟨Nat.le_of_ble_eq_true rfl, Nat.le_of_ble_eq_true rfl⟩) (fun r_16 w_16 => ?_)
            rcases w_16 with ⟨rfl, w_16⟩ | ⟨rfl, w_16⟩
            · have w_16 : mj_sj ks ko kv kn i.toNatClampNeg o_10 o_11 o_13 o_14 := w_16
              refine lv_if_ne (tgt := 55) hx hb dX2_renew_49 (by decide) (fun c_17 => ?_) (fun c_17 => ?_)
              · refine lv_aload_n hx hb dX2_renew_55 rfl (lv_at hl 2 rfl) ?_
                refine lv_iload hx hb dX2_renew_56 (lv_at hl 0 rfl) ?_
                obtain ⟨hPc, hDc, hFc, hCc⟩ := kx_pre (wc := [kx_2 q_t q_row q_joined q_from q_to q_size q_lossOf q_lessBy q_value q_number nodes here, kx_a q_size cyI 319 ks, kx_a q_lossOf cyI 319 ko, kx_a q_lessBy cyI 319 ke, kx_a q_value cyI 1914 kv, kx_a q_number cyI 1914 kn, kx_3 q_joined j_v j_n o_10 o_11 o_12, kx_a j_v cyI 12 o_13, kx_a j_n cyI 12 o_14]) hP hD hS hA [1, 6, 7, 0, 8, 9, 10, 11, 12] (by decide) rfl
                have hKc := hK
                refine va_callv (va_runV (As := [.int i]) (rest := []) ⟨hx, hb, hml, hown, hts⟩ (c_X2_keepJoined_x l dC dI q_t q_row q_joined q_from q_to q_size q_lossOf q_lessBy q_value q_number nodes here cyI ks ko kv kn ke j_v j_n o_10 o_11 o_12 o_13 o_14 i H.size i_2 (om_113 c0 LP1_h0) w_9.2.2.2.1 (om_456 k1 w_9.2.2.2.2)) (cwV 1 hts gX2_renew_X2_keepJoined rfl rfl rfl (by decide +kernel) ⟨Nat.le_of_ble_eq_true rfl, Nat.le_of_ble_eq_true rfl⟩) ⟨fun a U g mk q => by obtain ⟨q0, q1, qP, qK, qD⟩ := q; exact ⟨q0, q1, qP, va_K.moved (u := U) (U := U.calling g mk a) (Vm.Alike.refl U.vm) qK, qD⟩, va_recv hKc hPc (ci := 2) (q0 := 0) rfl rfl, fun U hU hW => ⟨rfl, by rw [hU], by rw [hU]; exact hPc, va_K.moved hW.alike hKc, hDc.weaken (fun _ _ _ _ => trivial)⟩⟩ rfl rfl hl.1 rfl (lv_room (Nat.le_of_ble_eq_true rfl)) dX2_renew_58 ⟨Nat.le_of_ble_eq_true rfl, Nat.le_of_ble_eq_true rfl⟩) hS (fun q _ h => hFc q h) hFc (fun u t H1 locs ht hvm w_18 hB hz1 hk1 hS => ?_)
                obtain ⟨o_19, o_20, o_21, o_22, o_23⟩ := u
                dsimp only at w_18 hB
                obtain ⟨hP1, hK1, hD1⟩ := hB
                rw [ht] at hP1
                have hK1 := va_K.moved hvm.symm hK1
                obtain ⟨hP, hD⟩ := kx_join (w2 := [kx_0 q_row q_cell len, kx_a q_cell cyI 160 f, kx_a q_from cyI 319 ff, kx_a q_to cyI 319 ft, kx_2 q_t q_row q_joined q_from q_to q_size q_lossOf q_lessBy q_value q_number nodes here, kx_a q_size cyI 319 o_19, kx_a q_lossOf cyI 319 o_20, kx_a q_lessBy cyI 319 o_21, kx_a q_value cyI 1914 o_22, kx_a q_number cyI 1914 o_23, kx_3 q_joined j_v j_n o_10 o_11 o_12, kx_a j_v cyI 12 o_13, kx_a j_n cyI 12 o_14]) hP hD hP1 hD1 hk1 hFc [1, 6, 7, 0, 8, 9, 10, 11, 12] [2, 3, 4, 5] hCc rfl (by decide) (by decide)
                clear hP1 hD1 hK1 hk1 hz1 hFc hDc hPc hKc hCc
                generalize H1 = H at hP hS ⊢
                have w_18 : o_19 = upd ks i.toNatClampNeg o_10 ∧ o_20 = upd ko i.toNatClampNeg o_11 ∧ o_21 = upd ke i.toNatClampNeg o_12 ∧ mj_kp o_13 o_14 kv kn o_22 o_23 i.toNatClampNeg o_10.toNatClampNeg := w_18
                obtain ⟨x_24, ex_24⟩ : ∃ y : Int32, y = i + (-1) := ⟨_, rfl⟩
                have i_24 : x_24.toInt = i.toInt + (-1) := ki_add ex_24 rfl rfl (om_107 i_2) (om_108 c0 LP1_h0)
                refine lv_iinc (v := x_24) (lv' := [(4, .int x_24), (3, .int oth), (0, .ref q_t), (1, .int p0), (2, .int p1)]) hx hb dX2_renew_61 hl (k := 0) rfl (by rw [ex_24]; rfl) (by decide) rfl (fun ls hl => ?_)
                refine lv_goto (tgt := 10) hx hb dX2_renew_64 (by decide) ?_
                have hP : va_P (dC, dI) vwCl [kx_2 q_t q_row q_joined q_from q_to q_size q_lossOf q_lessBy q_value q_number nodes here, kx_0 q_row q_cell len, kx_a q_cell cyI 160 f, kx_a q_from cyI 319 ff, kx_a q_to cyI 319 ft, kx_a q_size cyI 319 o_19, kx_a q_lossOf cyI 319 o_20, kx_a q_lessBy cyI 319 o_21, kx_a q_value cyI 1914 o_22, kx_a q_number cyI 1914 o_23, kx_3 q_joined j_v j_n o_10 o_11 o_12, kx_a j_v cyI 12 o_13, kx_a j_n cyI 12 o_14] _ := hP.sub [4, 0, 1, 2, 3, 5, 6, 7, 8, 9, 10, 11, 12] rfl
                have hD : va_D A [kx_2 q_t q_row q_joined q_from q_to q_size q_lossOf q_lessBy q_value q_number nodes here, kx_0 q_row q_cell len, kx_a q_cell cyI 160 f, kx_a q_from cyI 319 ff, kx_a q_to cyI 319 ft, kx_a q_size cyI 319 o_19, kx_a q_lossOf cyI 319 o_20, kx_a q_lessBy cyI 319 o_21, kx_a q_value cyI 1914 o_22, kx_a q_number cyI 1914 o_23, kx_3 q_joined j_v j_n o_10 o_11 o_12, kx_a j_v cyI 12 o_13, kx_a j_n cyI 12 o_14] := hD.sub [4, 0, 1, 2, 3, 5, 6, 7, 8, 9, 10, 11, 12] (by decide) rfl
                have okk := mj_jn_ok w_9.1 (by omega) (by omega) w_9.2.1 w_9.2.2.1 (by omega) (by omega) (by omega) w_18.1 w_18.2.1 w_18.2.2.1 w_18.2.2.2.1 w_18.2.2.2.2
                exact ih1 oth x_24 o_19 o_20 o_21 o_22 o_23 o_10 o_11 o_12 o_13 o_14 (om_109 LP1_h0 i_24) (om_110 i_2 i_24) (by rw [show (x_24.toInt + 1).toNat = i.toNatClampNeg by omega]; exact mj_rn_put LP1_h2 (by omega) (by unfold mj_hit; omega) okk w_18.1 w_18.2.1 w_18.2.2.1 w_18.2.2.2.2) (by rw [w_18.1]; exact sixes_upd LP1_h3 (by omega) (by omega)) (om_mu hn1 (om_111 i_24) (om_112 i_2)) _ _ hP hD hS ls (lv_sub hl [0, 1, 2, 3, 4] rfl)
              · exact absurd c_17 (by decide)
            · have w_16 : ¬ mj_sj ks ko kv kn i.toNatClampNeg o_10 o_11 o_13 o_14 := w_16
              refine lv_if_ne (tgt := 55) hx hb dX2_renew_49 (by decide) (fun c_25 => ?_) (fun c_25 => ?_)
              · exact absurd c_25 (by decide)
              · obtain ⟨x_26, ex_26⟩ : ∃ y : Int32, y = oth + 1 := ⟨_, rfl⟩
                refine lv_iinc (v := x_26) (lv' := [(3, .int x_26), (4, .int i), (0, .ref q_t), (1, .int p0), (2, .int p1)]) hx hb dX2_renew_52 hl (k := 1) rfl (by rw [ex_26]; rfl) (by decide) rfl (fun ls hl => ?_)
                refine lv_aload_n hx hb dX2_renew_55 rfl (lv_at hl 2 rfl) ?_
                refine lv_iload hx hb dX2_renew_56 (lv_at hl 1 rfl) ?_
                obtain ⟨hPc, hDc, hFc, hCc⟩ := kx_pre (wc := [kx_2 q_t q_row q_joined q_from q_to q_size q_lossOf q_lessBy q_value q_number nodes here, kx_a q_size cyI 319 ks, kx_a q_lossOf cyI 319 ko, kx_a q_lessBy cyI 319 ke, kx_a q_value cyI 1914 kv, kx_a q_number cyI 1914 kn, kx_3 q_joined j_v j_n o_10 o_11 o_12, kx_a j_v cyI 12 o_13, kx_a j_n cyI 12 o_14]) hP hD hS hA [1, 6, 7, 0, 8, 9, 10, 11, 12] (by decide) rfl
                have hKc := hK
                refine va_callv (va_runV (As := [.int i]) (rest := []) ⟨hx, hb, hml, hown, hts⟩ (c_X2_keepJoined_x l dC dI q_t q_row q_joined q_from q_to q_size q_lossOf q_lessBy q_value q_number nodes here cyI ks ko kv kn ke j_v j_n o_10 o_11 o_12 o_13 o_14 i H.size i_2 (om_113 c0 LP1_h0) w_9.2.2.2.1 (om_456 k1 w_9.2.2.2.2)) (cwV 1 hts gX2_renew_X2_keepJoined rfl rfl rfl (by decide +kernel) ⟨Nat.le_of_ble_eq_true rfl, Nat.le_of_ble_eq_true rfl⟩) ⟨fun a U g mk q => by obtain ⟨q0, q1, qP, qK, qD⟩ := q; exact ⟨q0, q1, qP, va_K.moved (u := U) (U := U.calling g mk a) (Vm.Alike.refl U.vm) qK, qD⟩, va_recv hKc hPc (ci := 2) (q0 := 0) rfl rfl, fun U hU hW => ⟨rfl, by rw [hU], by rw [hU]; exact hPc, va_K.moved hW.alike hKc, hDc.weaken (fun _ _ _ _ => trivial)⟩⟩ rfl rfl hl.1 rfl (lv_room (Nat.le_of_ble_eq_true rfl)) dX2_renew_58 ⟨Nat.le_of_ble_eq_true rfl, Nat.le_of_ble_eq_true rfl⟩) hS (fun q _ h => hFc q h) hFc (fun u t H1 locs ht hvm w_27 hB hz1 hk1 hS => ?_)
                obtain ⟨o_28, o_29, o_30, o_31, o_32⟩ := u
                dsimp only at w_27 hB
                obtain ⟨hP1, hK1, hD1⟩ := hB
                rw [ht] at hP1
                have hK1 := va_K.moved hvm.symm hK1
                obtain ⟨hP, hD⟩ := kx_join (w2 := [kx_0 q_row q_cell len, kx_a q_cell cyI 160 f, kx_a q_from cyI 319 ff, kx_a q_to cyI 319 ft, kx_2 q_t q_row q_joined q_from q_to q_size q_lossOf q_lessBy q_value q_number nodes here, kx_a q_size cyI 319 o_28, kx_a q_lossOf cyI 319 o_29, kx_a q_lessBy cyI 319 o_30, kx_a q_value cyI 1914 o_31, kx_a q_number cyI 1914 o_32, kx_3 q_joined j_v j_n o_10 o_11 o_12, kx_a j_v cyI 12 o_13, kx_a j_n cyI 12 o_14]) hP hD hP1 hD1 hk1 hFc [1, 6, 7, 0, 8, 9, 10, 11, 12] [2, 3, 4, 5] hCc rfl (by decide) (by decide)
                clear hP1 hD1 hK1 hk1 hz1 hFc hDc hPc hKc hCc
                generalize H1 = H at hP hS ⊢
                have w_27 : o_28 = upd ks i.toNatClampNeg o_10 ∧ o_29 = upd ko i.toNatClampNeg o_11 ∧ o_30 = upd ke i.toNatClampNeg o_12 ∧ mj_kp o_13 o_14 kv kn o_31 o_32 i.toNatClampNeg o_10.toNatClampNeg := w_27
                obtain ⟨x_33, ex_33⟩ : ∃ y : Int32, y = i + (-1) := ⟨_, rfl⟩
                have i_33 : x_33.toInt = i.toInt + (-1) := ki_add ex_33 rfl rfl (om_107 i_2) (om_108 c0 LP1_h0)
                refine lv_iinc (v := x_33) (lv' := [(4, .int x_33), (3, .int x_26), (0, .ref q_t), (1, .int p0), (2, .int p1)]) hx hb dX2_renew_61 hl (k := 1) rfl (by rw [ex_33]; rfl) (by decide) rfl (fun ls hl => ?_)
                refine lv_goto (tgt := 10) hx hb dX2_renew_64 (by decide) ?_
                have hP : va_P (dC, dI) vwCl [kx_2 q_t q_row q_joined q_from q_to q_size q_lossOf q_lessBy q_value q_number nodes here, kx_0 q_row q_cell len, kx_a q_cell cyI 160 f, kx_a q_from cyI 319 ff, kx_a q_to cyI 319 ft, kx_a q_size cyI 319 o_28, kx_a q_lossOf cyI 319 o_29, kx_a q_lessBy cyI 319 o_30, kx_a q_value cyI 1914 o_31, kx_a q_number cyI 1914 o_32, kx_3 q_joined j_v j_n o_10 o_11 o_12, kx_a j_v cyI 12 o_13, kx_a j_n cyI 12 o_14] _ := hP.sub [4, 0, 1, 2, 3, 5, 6, 7, 8, 9, 10, 11, 12] rfl
                have hD : va_D A [kx_2 q_t q_row q_joined q_from q_to q_size q_lossOf q_lessBy q_value q_number nodes here, kx_0 q_row q_cell len, kx_a q_cell cyI 160 f, kx_a q_from cyI 319 ff, kx_a q_to cyI 319 ft, kx_a q_size cyI 319 o_28, kx_a q_lossOf cyI 319 o_29, kx_a q_lessBy cyI 319 o_30, kx_a q_value cyI 1914 o_31, kx_a q_number cyI 1914 o_32, kx_3 q_joined j_v j_n o_10 o_11 o_12, kx_a j_v cyI 12 o_13, kx_a j_n cyI 12 o_14] := hD.sub [4, 0, 1, 2, 3, 5, 6, 7, 8, 9, 10, 11, 12] (by decide) rfl
                have okk := mj_jn_ok w_9.1 (by omega) (by omega) w_9.2.1 w_9.2.2.1 (by omega) (by omega) (by omega) w_27.1 w_27.2.1 w_27.2.2.1 w_27.2.2.2.1 w_27.2.2.2.2
                exact ih1 x_26 x_33 o_28 o_29 o_30 o_31 o_32 o_10 o_11 o_12 o_13 o_14 (om_109 LP1_h0 i_33) (om_110 i_2 i_33) (by rw [show (x_33.toInt + 1).toNat = i.toNatClampNeg by omega]; exact mj_rn_put LP1_h2 (by omega) (by unfold mj_hit; omega) okk w_27.1 w_27.2.1 w_27.2.2.1 w_27.2.2.2.2) (by rw [w_27.1]; exact sixes_upd LP1_h3 (by omega) (by omega)) (om_mu hn1 (om_111 i_33) (om_112 i_2)) _ _ hP hD hS ls (lv_sub hl [0, 1, 2, 3, 4] rfl)
  have k_34 : (0 : Int32).toInt = 0 := rfl
  exact LP1 ((y_1.toInt + 1 : Int).toNat + 1) 0 y_1 fs fo fe uv un js jl je jv jn (om_114 i_1) (om_115 b0 i_1) (mj_rn_0 _ _ _ _ _ _ _ _ _ _ _ (by omega)) s0 (Nat.lt_succ_self _) _ _ hP hD hS ls (lv_sub hl [0, 1, 2, 3, 4] rfl)

set_option maxHeartbeats 4000000 in
set_option maxRecDepth 100000 in
theorem c_X2_layRanges_x (l : Launch) (dC : Nat → ClassId) (dI : Nat → Nat → Nat) (q_t : Nat) (q_row : Nat) (q_joined : Nat) (q_from : Nat) (q_to : Nat) (q_size : Nat) (q_lossOf : Nat) (q_lessBy : Nat) (q_value : Nat) (q_number : Nat) (nodes : Int32) (here : Int32) (q_cell : Nat) (cyI : ClassId) (len : Int32) (ff : Nat → Int32) (ft : Nat → Int32) (sz : Nat) (a0 : 0 ≤ len.toInt) (a1 : len.toInt ≤ 160) : Met l yX2_layRanges wsX2_layRanges ({ frames := 2, cells := 0, slots := 0, locals := 90 }) (va_Pc [.ref q_t] (fun U => U.heap.size = sz ∧ va_P (dC, dI) vwCl [kx_2 q_t q_row q_joined q_from q_to q_size q_lossOf q_lessBy q_value q_number nodes here, kx_0 q_row q_cell len, kx_a q_from cyI 319 ff, kx_a q_to cyI 319 ft] U.heap ∧ va_K (dC, dI) vwCl [(cyI, .int)] U ∧ va_D (fun _ => True) [kx_2 q_t q_row q_joined q_from q_to q_size q_lossOf q_lessBy q_value q_number nodes here, kx_0 q_row q_cell len, kx_a q_from cyI 319 ff, kx_a q_to cyI 319 ft])) (va_Qv (fun u : Int32 × (Nat → Int32) × (Nat → Int32) => ((len.toInt = 0 ∧ u.1.toInt = 0) ∨ (0 < len.toInt ∧ u.1.toInt = 2 * len.toInt - 1)) ∧ treeOk u.2.1 u.2.2 u.1.toInt len.toInt ∧ mj_cr u.2.1 u.2.2 u.1.toInt ∧ mj_rt u.2.1 u.2.2 len.toInt) (fun (u : Int32 × (Nat → Int32) × (Nat → Int32)) (t : State) => va_P (dC, dI) vwCl [kx_2 q_t q_row q_joined q_from q_to q_size q_lossOf q_lessBy q_value q_number u.1 here, kx_0 q_row q_cell len, kx_a q_from cyI 319 u.2.1, kx_a q_to cyI 319 u.2.2] t.heap ∧ va_K (dC, dI) vwCl [(cyI, .int)] t ∧ va_D (va_A [kx_2 q_t q_row q_joined q_from q_to q_size q_lossOf q_lessBy q_value q_number nodes here, kx_0 q_row q_cell len, kx_a q_from cyI 319 ff, kx_a q_to cyI 319 ft] sz) [kx_2 q_t q_row q_joined q_from q_to q_size q_lossOf q_lessBy q_value q_number u.1 here, kx_0 q_row q_cell len, kx_a q_from cyI 319 u.2.1, kx_a q_to cyI 319 u.2.2]) (va_A [kx_2 q_t q_row q_joined q_from q_to q_size q_lossOf q_lessBy q_value q_number nodes here, kx_0 q_row q_cell len, kx_a q_from cyI 319 ff, kx_a q_to cyI 319 ft] sz)) 0 0 (va_A [kx_2 q_t q_row q_joined q_from q_to q_size q_lossOf q_lessBy q_value q_number nodes here, kx_0 q_row q_cell len, kx_a q_from cyI 319 ff, kx_a q_to cyI 319 ft] sz) := by
  refine Met.ofW (cc := cX2_layRanges) (maxL := 2) (ret := none) (by decide) rfl ?_
  intro p e s m args below meth c s₁ B hml hv
  obtain ⟨rfl, hsz, hP, hK, hD0⟩ := hv
  have hx := B.exec
  have hb := B.bytes
  have hr := B.returns
  have hts := atoms_spec (ws := wsX2_layRanges) B.pre
  have hown : s.vm.findClass RX2 = some m.cls := findClass_of_methodNamed B.named
  have hlocks := B.notSynchronized
  subst hsz
  have hD := hD0.self (sz := s.heap.size)
  generalize hAe : va_A [kx_2 q_t q_row q_joined q_from q_to q_size q_lossOf q_lessBy q_value q_number nodes here, kx_0 q_row q_cell len, kx_a q_from cyI 319 ff, kx_a q_to cyI 319 ft] s.heap.size = A at hD ⊢
  have hA : ∀ q : Nat, s.heap.size ≤ q → A q := fun q h => by rw [← hAe]; exact Or.inr h
  have hS : va_S A s.heap s.heap [] := va_S.rf
  have hP : va_P (dC, dI) vwCl [kx_2 q_t q_row q_joined q_from q_to q_size q_lossOf q_lessBy q_value q_number nodes here, kx_0 q_row q_cell len, kx_a q_from cyI 319 ff, kx_a q_to cyI 319 ft] s.heap := hP
  have hl := lv_entry ([.ref q_t]) (n := 2) (Nat.le_of_ble_eq_true rfl)
  rw [lg_entry_eq]
  generalize (lg_sl ([.ref q_t]) ++ List.replicate (2 - (lg_sl ([.ref q_t])).length) Slot.unset).toArray = ls at hl ⊢
  have hl : lv_has ls 2 [(0, .ref q_t)] := hl
  have hf_40 := hts (.fieldLink RX2 40 "MajorityIndex$Tree" "row" "LMajorityIndex$Row;") (List.mem_of_getElem? (i := 1) rfl)
  have hi_2 : ∀ w ∈ u_ws RX2 TX2 11, w ∈ wsX2_layRanges := fun w h => List.mem_cons_of_mem _ (List.mem_append_left _ (List.mem_append_right _ h))
  have hf_44 := hts (.fieldLink RX2 44 "MajorityIndex$Row" "length" "I") (List.mem_of_getElem? (i := 2) rfl)
  have hi_0 : ∀ w ∈ u_ws RX0 TX0 2, w ∈ wsX2_layRanges := fun w h => List.mem_cons_of_mem _ (List.mem_append_right _ h)
  have hf_50 := hts (.fieldLink RX2 50 "MajorityIndex$Tree" "nodes" "I") (List.mem_of_getElem? (i := 3) rfl)
  have hf_18 := hts (.fieldLink RX2 18 "MajorityIndex$Tree" "from" "[I") (List.mem_of_getElem? (i := 4) rfl)
  have hf_22 := hts (.fieldLink RX2 22 "MajorityIndex$Tree" "to" "[I") (List.mem_of_getElem? (i := 5) rfl)
  refine lv_aload_n hx hb dX2_layRanges_0 rfl (lv_at hl 0 rfl) ?_
  refine lv_aload_n hx hb dX2_layRanges_1 rfl (lv_at hl 0 rfl) ?_
  refine va_get (D := (dC, dI)) (ci := 2) (v := .ref q_row) (C := RX2) (T := TX2) (N := 11) hx hb hts hi_2 hown hK hP 0 rfl rfl 0 (by decide) hf_40 (fun _ h9 => h9) rfl dX2_layRanges_2 ?_
  refine va_get (D := (dC, dI)) (ci := 0) (v := .int len) (C := RX0) (T := TX0) (N := 2) hx hb hts hi_0 hown hK hP 1 rfl rfl 1 (by decide) hf_44 (fun _ h9 => h9) rfl dX2_layRanges_5 ?_
  refine lv_if_ne (tgt := 15) hx hb dX2_layRanges_8 (by decide) (fun c_1 => ?_) (fun c_1 => ?_)
  · have i_1 : ¬ len.toInt = 0 := kc_ne c_1
    refine lv_iconst (v := 2) hx hb dX2_layRanges_15 (by decide) ?_
    refine lv_aload_n hx hb dX2_layRanges_16 rfl (lv_at hl 0 rfl) ?_
    refine va_get (D := (dC, dI)) (ci := 2) (v := .ref q_row) (C := RX2) (T := TX2) (N := 11) hx hb hts hi_2 hown hK hP 0 rfl rfl 0 (by decide) hf_40 (fun _ h9 => h9) rfl dX2_layRanges_17 ?_
    refine va_get (D := (dC, dI)) (ci := 0) (v := .int len) (C := RX0) (T := TX0) (N := 2) hx hb hts hi_0 hown hK hP 1 rfl rfl 1 (by decide) hf_44 (fun _ h9 => h9) rfl dX2_layRanges_20 ?_
    refine lv_imul hx hb dX2_layRanges_23 ?_
    refine lv_topi (fun y_2 ey_2 => ?_)
    have i_2 : y_2.toInt = 2 * len.toInt := ki_mul ey_2 rfl rfl (om_66 a0) (om_67 a1)
    refine lv_iconst (v := 1) hx hb dX2_layRanges_24 (by decide) ?_
    refine lv_isub hx hb dX2_layRanges_25 ?_
    refine lv_topi (fun y_3 ey_3 => ?_)
    have i_3 : y_3.toInt = y_2.toInt - 1 := ki_sub ey_3 rfl rfl (om_68 a0 i_2) (om_69 a1 i_2)
    refine va_put (D := (dC, dI)) (ci := 2) (v := .int y_3) (ty := .int) (C := RX2) (T := TX2) (N := 11) hx hb hts hi_2 tyX2 tyX2_ok nmX2 hown hK hP hD hS 0 rfl rfl 9 (by decide) hf_50 (fun _ h9 => h9) rfl (by decide +kernel) rfl rfl (Nat.le_of_ble_eq_true rfl) dX2_layRanges_26 (fun H locs hP hD hS => ?_)
    obtain ⟨hP, hD⟩ := kx_re (w2 := [kx_2 q_t q_row q_joined q_from q_to q_size q_lossOf q_lessBy q_value q_number y_3 here, kx_0 q_row q_cell len, kx_a q_from cyI 319 ff, kx_a q_to cyI 319 ft]) hP hD rfl
    refine lv_aload_n hx hb dX2_layRanges_29 rfl (lv_at hl 0 rfl) ?_
    refine va_get (D := (dC, dI)) (ci := 2) (v := .ref q_from) (C := RX2) (T := TX2) (N := 11) hx hb hts hi_2 hown hK hP 0 rfl rfl 2 (by decide) hf_18 (fun _ h9 => h9) rfl dX2_layRanges_30 ?_
    refine lv_iconst (v := 0) hx hb dX2_layRanges_33 (by decide) ?_
    refine lv_iconst (v := 0) hx hb dX2_layRanges_34 (by decide) ?_
    refine va_iast hx hb hK hP hD hS 2 0 rfl rfl (ki_inl (by decide)) dX2_layRanges_35 (fun H locs hP hD hS => ?_)
    obtain ⟨hP, hD⟩ := kx_re (w2 := [kx_2 q_t q_row q_joined q_from q_to q_size q_lossOf q_lessBy q_value q_number y_3 here, kx_0 q_row q_cell len, kx_a q_from cyI 319 (upd ff (0 : Int32).toNatClampNeg 0), kx_a q_to cyI 319 ft]) hP hD rfl
    refine lv_aload_n hx hb dX2_layRanges_36 rfl (lv_at hl 0 rfl) ?_
    refine va_get (D := (dC, dI)) (ci := 2) (v := .ref q_to) (C := RX2) (T := TX2) (N := 11) hx hb hts hi_2 hown hK hP 0 rfl rfl 3 (by decide) hf_22 (fun _ h9 => h9) rfl dX2_layRanges_37 ?_
    refine lv_iconst (v := 0) hx hb dX2_layRanges_40 (by decide) ?_
    refine lv_aload_n hx hb dX2_layRanges_41 rfl (lv_at hl 0 rfl) ?_
    refine va_get (D := (dC, dI)) (ci := 2) (v := .ref q_row) (C := RX2) (T := TX2) (N := 11) hx hb hts hi_2 hown hK hP 0 rfl rfl 0 (by decide) hf_40 (fun _ h9 => h9) rfl dX2_layRanges_42 ?_
    refine va_get (D := (dC, dI)) (ci := 0) (v := .int len) (C := RX0) (T := TX0) (N := 2) hx hb hts hi_0 hown hK hP 1 rfl rfl 1 (by decide) hf_44 (fun _ h9 => h9) rfl dX2_layRanges_45 ?_
    refine va_iast hx hb hK hP hD hS 3 0 rfl rfl (ki_inl (by decide)) dX2_layRanges_48 (fun H locs hP hD hS => ?_)
    obtain ⟨hP, hD⟩ := kx_re (w2 := [kx_2 q_t q_row q_joined q_from q_to q_size q_lossOf q_lessBy q_value q_number y_3 here, kx_0 q_row q_cell len, kx_a q_from cyI 319 (upd ff (0 : Int32).toNatClampNeg 0), kx_a q_to cyI 319 (upd ft (0 : Int32).toNatClampNeg len)]) hP hD rfl
    refine lv_iconst (v := 0) hx hb dX2_layRanges_49 (by decide) ?_
    refine lv_istore_n (lv' := [(1, .int 0), (0, .ref q_t)]) hx hb dX2_layRanges_50 rfl hl (by decide) rfl (fun ls hl => ?_)
    have hpd : ∃ cc : Nat, pend (upd ff (0 : Int32).toNatClampNeg 0) (upd ft (0 : Int32).toNatClampNeg len) y_3.toInt len.toInt cc (0 : Int32).toNatClampNeg := by
      have z0 : (0 : Int32).toNatClampNeg = 0 := rfl
      have z1 : (0 : Int32).toInt = 0 := rfl
      have u1 : upd ff 0 0 0 = 0 := by unfold upd; rw [if_pos rfl]
      have u2 : upd ft 0 len 0 = len := by unfold upd; rw [if_pos rfl]
      refine ⟨1, ⟨?_, ?_⟩⟩
      · unfold okAt; rw [z0, u1, u2, z1]; omega
      · show ((_ : Nat) : Int) = _; rw [z0, u1, u2, z1]; omega
    have LP1 : ∀ (n : Nat) (i : Int32) (gf : Nat → Int32) (gt : Nat → Int32), (0 ≤ i.toInt) → (∀ k : Nat, k < i.toNatClampNeg → okAt gf gt y_3.toInt len.toInt k) → (∃ cc : Nat, pend gf gt y_3.toInt len.toInt cc i.toNatClampNeg) → ((gf, gt) = mj_lit (upd ff (0 : Int32).toNatClampNeg 0) (upd ft (0 : Int32).toNatClampNeg len) 0 i.toNatClampNeg) → (i.toInt ≤ y_3.toInt) → (y_3.toInt - i.toInt).toNat < n → ∀ (H : Heap) (locs : List Loc), va_P (dC, dI) vwCl [kx_2 q_t q_row q_joined q_from q_to q_size q_lossOf q_lessBy q_value q_number y_3 here, kx_0 q_row q_cell len, kx_a q_from cyI 319 gf, kx_a q_to cyI 319 gt] H → va_D A [kx_2 q_t q_row q_joined q_from q_to q_size q_lossOf q_lessBy q_value q_number y_3 here, kx_0 q_row q_cell len, kx_a q_from cyI 319 gf, kx_a q_to cyI 319 gt] → va_S A s.heap H locs → ∀ (ls : Array Slot), lv_has ls 2 [(1, .int i), (0, .ref q_t)] → W p l e (headSpec wsX2_layRanges ({ frames := 2, cells := 0, slots := 0, locals := 90 })).room s m ([.ref q_t] : List Value).toArray below meth c H locs 0 0 (MQ below (va_Qv (fun u : Int32 × (Nat → Int32) × (Nat → Int32) => ((len.toInt = 0 ∧ u.1.toInt = 0) ∨ (0 < len.toInt ∧ u.1.toInt = 2 * len.toInt - 1)) ∧ treeOk u.2.1 u.2.2 u.1.toInt len.toInt ∧ mj_cr u.2.1 u.2.2 u.1.toInt ∧ mj_rt u.2.1 u.2.2 len.toInt) (fun (u : Int32 × (Nat → Int32) × (Nat → Int32)) (t : State) => va_P (dC, dI) vwCl [kx_2 q_t q_row q_joined q_from q_to q_size q_lossOf q_lessBy q_value q_number u.1 here, kx_0 q_row q_cell len, kx_a q_from cyI 319 u.2.1, kx_a q_to cyI 319 u.2.2] t.heap ∧ va_K (dC, dI) vwCl [(cyI, .int)] t ∧ va_D A [kx_2 q_t q_row q_joined q_from q_to q_size q_lossOf q_lessBy q_value q_number u.1 here, kx_0 q_row q_cell len, kx_a q_from cyI 319 u.2.1, kx_a q_to cyI 319 u.2.2]) A) ([.ref q_t] : List Value).toArray s 0 0 A) (F0 m 51 ls []) := by
      intro n
      induction n with
      | zero => intro i gf gt LP1_h0 LP1_h1 LP1_h2 LP1_h3 LP1_h4 hn; exact absurd hn (Nat.not_lt_zero _)
      | succ n ih1 =>
        intro i gf gt LP1_h0 LP1_h1 LP1_h2 LP1_h3 LP1_h4 hn1 H locs hP hD hS ls hl
        obtain ⟨cc, hcc⟩ := LP1_h2
        have n_i := ki_nat i rfl (by omega)
        refine lv_iload_n hx hb dX2_layRanges_51 rfl (lv_at hl 0 rfl) ?_
        refine lv_aload_n hx hb dX2_layRanges_52 rfl (lv_at hl 1 rfl) ?_
        refine va_get (D := (dC, dI)) (ci := 2) (v := .int y_3) (C := RX2) (T := TX2) (N := 11) hx hb hts hi_2 hown hK hP 0 rfl rfl 9 (by decide) hf_50 (fun _ h9 => h9) rfl dX2_layRanges_53 ?_
        refine lv_icmp_ge (tgt := 87) hx hb dX2_layRanges_56 (by decide) (fun c_4 => ?_) (fun c_4 => ?_)
        · have i_4 : y_3.toInt ≤ i.toInt := kc_le c_4
          have hP9 := hP
          have hD9 := hD
          have hK9 := hK
          have n_len := ki_nat len rfl (om_8 a0)
          have u1 : upd ff (0 : Int32).toNatClampNeg 0 0 = 0 := rfl
          have u2 : upd ft (0 : Int32).toNatClampNeg len 0 = len := rfl
          have hRO := mj_lit_R 8 0 0 len.toNatClampNeg (upd ff (0 : Int32).toNatClampNeg 0) (upd ft (0 : Int32).toNatClampNeg len) (by rw [u1]; rfl) (by rw [u2]; omega) (by omega) (by omega) (show len.toNatClampNeg - 0 ≤ 256 by omega)
          have n_i9 := ki_nat i rfl (by omega)
          rw [show 2 * (len.toNatClampNeg - 0) - 1 = i.toNatClampNeg by omega, ← LP1_h3] at hRO
          have hR := hRO.1
          have hO := hRO.2 0 (by omega)
          dsimp only at hO
          have k_z : (0 : Int32).toInt = 0 := rfl
          exact W.vret hx hb hr (fun t ht hW => ⟨⟨(y_3, gf, gt), rfl, ⟨Or.inr ⟨by omega, by (try dsimp only); omega⟩, (fun k hk => LP1_h1 k (by (try dsimp only at hk); omega)), mj_R_cr hR (by omega) (by (try dsimp only); omega), fun _ => ⟨by (try dsimp only); rw [hO.1, u1]; exact k_z, by (try dsimp only); rw [hO.2, u2]⟩⟩, by rw [ht]; exact hP9, va_K.moved hW.alike hK9, hD9⟩, hS.F ht⟩) hS.2.2 dX2_layRanges_87
        · have i_4 : i.toInt < y_3.toInt := kc_nle c_4
          obtain ⟨c9, rfl⟩ : ∃ c9, cc = c9 + 1 := by
            cases cc with
            | zero => exact absurd (show (i.toNatClampNeg : Int) = _ from hcc) (by omega)
            | succ c => exact ⟨c, rfl⟩
          have hok := hcc.1
          unfold okAt at hok
          refine lv_aload_n hx hb dX2_layRanges_59 rfl (lv_at hl 1 rfl) ?_
          refine va_get (D := (dC, dI)) (ci := 2) (v := .ref q_to) (C := RX2) (T := TX2) (N := 11) hx hb hts hi_2 hown hK hP 0 rfl rfl 3 (by decide) hf_22 (fun _ h9 => h9) rfl dX2_layRanges_60 ?_
          refine lv_iload_n hx hb dX2_layRanges_63 rfl (lv_at hl 0 rfl) ?_
          refine va_iald hx hb hK hP 3 0 rfl rfl (ki_in (om_8 LP1_h0) (om_70 a1 i_2 i_3 i_4)) dX2_layRanges_64 ?_
          refine lv_topi (fun y_5 ey_5 => ?_)
          have j_5 : y_5.toInt = (gt i.toNatClampNeg).toInt := congrArg Int32.toInt ey_5
          refine lv_aload_n hx hb dX2_layRanges_65 rfl (lv_at hl 1 rfl) ?_
          refine va_get (D := (dC, dI)) (ci := 2) (v := .ref q_from) (C := RX2) (T := TX2) (N := 11) hx hb hts hi_2 hown hK hP 0 rfl rfl 2 (by decide) hf_18 (fun _ h9 => h9) rfl dX2_layRanges_66 ?_
          refine lv_iload_n hx hb dX2_layRanges_69 rfl (lv_at hl 0 rfl) ?_
          refine va_iald hx hb hK hP 2 0 rfl rfl (ki_in (om_8 LP1_h0) (om_70 a1 i_2 i_3 i_4)) dX2_layRanges_70 ?_
          refine lv_topi (fun y_6 ey_6 => ?_)
          have j_6 : y_6.toInt = (gf i.toNatClampNeg).toInt := congrArg Int32.toInt ey_6
          refine lv_isub hx hb dX2_layRanges_71 ?_
          refine lv_topi (fun y_7 ey_7 => ?_)
          have i_7 : y_7.toInt = y_5.toInt - y_6.toInt := ki_sub ey_7 rfl rfl (by omega) (by omega)
          refine lv_iconst (v := 1) hx hb dX2_layRanges_72 (by decide) ?_
          refine lv_icmp_le (tgt := 81) hx hb dX2_layRanges_73 (by decide) (fun c_8 => ?_) (fun c_8 => ?_)
          · have i_8 : y_7.toInt ≤ 1 := kc_le c_8
            obtain ⟨x_9, ex_9⟩ : ∃ y : Int32, y = i + 1 := ⟨_, rfl⟩
            have i_9 : x_9.toInt = i.toInt + 1 := ki_add ex_9 rfl rfl (om_10 LP1_h0) (om_457 a1 i_2 i_3 LP1_h4)
            refine lv_iinc (v := x_9) (lv' := [(1, .int x_9), (0, .ref q_t)]) hx hb dX2_layRanges_81 hl (k := 0) rfl (by rw [ex_9]; rfl) (by decide) rfl (fun ls hl => ?_)
            refine lv_goto (tgt := 51) hx hb dX2_layRanges_84 (by decide) ?_
            have n_x := ki_nat x_9 rfl (by omega)
            have q_x : x_9.toNatClampNeg = i.toNatClampNeg + 1 := by omega
            have q_l : mj_lit (upd ff (0 : Int32).toNatClampNeg 0) (upd ft (0 : Int32).toNatClampNeg len) 0 (i.toNatClampNeg + 1) = mj_l1 gf gt i.toNatClampNeg := by
              show mj_l1 (mj_lit _ _ 0 i.toNatClampNeg).1 (mj_lit _ _ 0 i.toNatClampNeg).2 (0 + i.toNatClampNeg) = _
              rw [← LP1_h3, Nat.zero_add]
            exact ih1 x_9 gf gt (om_31 LP1_h0 i_9) (fun k hk => (if h9 : k < i.toNatClampNeg then LP1_h1 k h9 else (by rw [show k = i.toNatClampNeg by omega]; exact hcc.1))) ⟨c9, by rw [q_x]; exact pend_leaf hcc (by omega)⟩ (by rw [q_x, q_l]; unfold mj_l1; rw [if_neg (by omega)]) (om_47 i_4 i_9) (om_mu hn1 (om_5 i_9) (om_6 i_4)) _ _ hP hD hS ls (lv_sub hl [0, 1] rfl)
          · have i_8 : 1 < y_7.toInt := kc_nle c_8
            refine lv_aload_n hx hb dX2_layRanges_76 rfl (lv_at hl 1 rfl) ?_
            refine lv_iload_n hx hb dX2_layRanges_77 rfl (lv_at hl 0 rfl) ?_
            obtain ⟨hPc, hDc, hFc, hCc⟩ := kx_pre (wc := [kx_2 q_t q_row q_joined q_from q_to q_size q_lossOf q_lessBy q_value q_number y_3 here, kx_a q_from cyI 319 gf, kx_a q_to cyI 319 gt]) hP hD hS hA [0, 2, 3] (by decide) rfl
            have hKc := hK
            refine va_callv (va_runV (As := [.int i]) (rest := []) ⟨hx, hb, hml, hown, hts⟩ (c_X2_layBelow l dC dI q_t q_row q_joined q_from q_to q_size q_lossOf q_lessBy q_value q_number y_3 here cyI gf gt i H.size LP1_h0 (om_72 a1 i_2 i_3 i_4) (by omega) (om_73 j_5 j_6 i_7 i_8) (by omega) (by omega)) (cwV 1 hts gX2_layRanges_X2_layBelow rfl rfl rfl (by decide +kernel) ⟨Nat.le_of_ble_eq_true rfl, Nat.le_of_ble_eq_true rfl⟩) ⟨fun a U g mk q => by obtain ⟨q0, q1, qP, qK, qD⟩ := q; exact ⟨q0, q1, qP, va_K.moved (u := U) (U := U.calling g mk a) (Vm.Alike.refl U.vm) qK, qD⟩, va_recv hKc hPc (ci := 2) (q0 := 0) rfl rfl, fun U hU hW => ⟨rfl, by rw [hU], by rw [hU]; exact hPc, va_K.moved hW.alike hKc, hDc.weaken (fun _ _ _ _ => trivial)⟩⟩ rfl rfl hl.1 rfl (lv_room (Nat.le_of_ble_eq_true rfl)) dX2_layRanges_78 ⟨Nat.le_of_ble_eq_true rfl, Nat.le_of_ble_eq_true rfl⟩) hS (fun q _ h => hFc q h) hFc (fun u t H1 locs ht hvm w_10 hB hz1 hk1 hS => ?_)
            obtain ⟨o_11, o_12, o_13, o_14⟩ := u
            dsimp only at w_10 hB
            obtain ⟨hP1, hK1, hD1⟩ := hB
            rw [ht] at hP1
            have hK1 := va_K.moved hvm.symm hK1
            obtain ⟨hP, hD⟩ := kx_join (w2 := [kx_0 q_row q_cell len, kx_2 q_t q_row q_joined q_from q_to q_size q_lossOf q_lessBy q_value q_number y_3 here, kx_a q_from cyI 319 o_13, kx_a q_to cyI 319 o_14]) hP hD hP1 hD1 hk1 hFc [0, 2, 3] [1] hCc rfl (by decide) (by decide)
            clear hP1 hD1 hK1 hk1 hz1 hFc hDc hPc hKc hCc
            generalize H1 = H at hP hS ⊢
            have w_10 : o_11.toInt = ((gf i.toNatClampNeg).toInt + (gt i.toNatClampNeg).toInt) / 2 ∧ o_12.toInt = i.toInt + 2 * (((gf i.toNatClampNeg).toInt + (gt i.toNatClampNeg).toInt) / 2 - (gf i.toNatClampNeg).toInt) ∧ o_13 = upd (upd gf (i.toNatClampNeg + 1) (gf i.toNatClampNeg)) o_12.toNatClampNeg o_11 ∧ o_14 = upd (upd gt (i.toNatClampNeg + 1) o_11) o_12.toNatClampNeg (gt i.toNatClampNeg) := w_10
            obtain ⟨x_15, ex_15⟩ : ∃ y : Int32, y = i + 1 := ⟨_, rfl⟩
            have i_15 : x_15.toInt = i.toInt + 1 := ki_add ex_15 rfl rfl (om_10 LP1_h0) (om_457 a1 i_2 i_3 LP1_h4)
            refine lv_iinc (v := x_15) (lv' := [(1, .int x_15), (0, .ref q_t)]) hx hb dX2_layRanges_81 hl (k := 0) rfl (by rw [ex_15]; rfl) (by decide) rfl (fun ls hl => ?_)
            refine lv_goto (tgt := 51) hx hb dX2_layRanges_84 (by decide) ?_
            have hP : va_P (dC, dI) vwCl [kx_2 q_t q_row q_joined q_from q_to q_size q_lossOf q_lessBy q_value q_number y_3 here, kx_0 q_row q_cell len, kx_a q_from cyI 319 o_13, kx_a q_to cyI 319 o_14] _ := hP.sub [1, 0, 2, 3] rfl
            have hD : va_D A [kx_2 q_t q_row q_joined q_from q_to q_size q_lossOf q_lessBy q_value q_number y_3 here, kx_0 q_row q_cell len, kx_a q_from cyI 319 o_13, kx_a q_to cyI 319 o_14] := hD.sub [1, 0, 2, 3] (by decide) rfl
            have n_x := ki_nat x_15 rfl (by omega)
            have q_x : x_15.toNatClampNeg = i.toNatClampNeg + 1 := by omega
            have n_r := ki_nat o_12 rfl (by omega)
            have hsp := pend_split (r := o_12.toNatClampNeg) (md := o_11) hcc rfl rfl (by omega) (by omega) (by omega) w_10.2.2.1 w_10.2.2.2
            have q_l : mj_lit (upd ff (0 : Int32).toNatClampNeg 0) (upd ft (0 : Int32).toNatClampNeg len) 0 (i.toNatClampNeg + 1) = mj_l1 gf gt i.toNatClampNeg := by
              show mj_l1 (mj_lit _ _ 0 i.toNatClampNeg).1 (mj_lit _ _ 0 i.toNatClampNeg).2 (0 + i.toNatClampNeg) = _
              rw [← LP1_h3, Nat.zero_add]
            have q_m : o_11 = Int32.ofInt (((gf i.toNatClampNeg).toInt + (gt i.toNatClampNeg).toInt) / 2) := by rw [← w_10.1, Int32.ofInt_toInt]
            have q_r : o_12.toNatClampNeg = i.toNatClampNeg + 2 * (((gf i.toNatClampNeg).toInt + (gt i.toNatClampNeg).toInt) / 2 - (gf i.toNatClampNeg).toInt).toNat := by omega
            exact ih1 x_15 o_13 o_14 (om_31 LP1_h0 i_15) (fun k hk => hsp.2 k (by omega) (if h9 : k < i.toNatClampNeg then LP1_h1 k h9 else (by rw [show k = i.toNatClampNeg by omega]; exact hcc.1))) ⟨c9 + 2, by rw [q_x]; exact hsp.1⟩ (by rw [q_x, q_l, w_10.2.2.1, w_10.2.2.2, q_r, q_m]; unfold mj_l1; rw [if_pos (by omega)]) (om_47 i_4 i_15) (om_mu hn1 (om_5 i_15) (om_6 i_4)) _ _ hP hD hS ls (lv_sub hl [0, 1] rfl)
    have k_16 : (0 : Int32).toInt = 0 := rfl
    exact LP1 ((y_3.toInt - 0 : Int).toNat + 1) 0 (upd ff (0 : Int32).toNatClampNeg 0) (upd ft (0 : Int32).toNatClampNeg len) om_32 (fun k hk => absurd hk (Nat.not_lt_zero k)) hpd rfl (by omega) (Nat.lt_succ_self _) _ _ hP hD hS ls (lv_sub hl [0, 1] rfl)
  · have i_1 : len.toInt = 0 := kc_eq c_1
    refine lv_iconst (v := 0) hx hb dX2_layRanges_11 (by decide) ?_
    refine lv_goto (tgt := 26) hx hb dX2_layRanges_12 (by decide) ?_
    refine va_put (D := (dC, dI)) (ci := 2) (v := .int 0) (ty := .int) (C := RX2) (T := TX2) (N := 11) hx hb hts hi_2 tyX2 tyX2_ok nmX2 hown hK hP hD hS 0 rfl rfl 9 (by decide) hf_50 (fun _ h9 => h9) rfl (by decide +kernel) rfl rfl (Nat.le_of_ble_eq_true rfl) dX2_layRanges_26 (fun H locs hP hD hS => ?_)
    obtain ⟨hP, hD⟩ := kx_re (w2 := [kx_2 q_t q_row q_joined q_from q_to q_size q_lossOf q_lessBy q_value q_number 0 here, kx_0 q_row q_cell len, kx_a q_from cyI 319 ff, kx_a q_to cyI 319 ft]) hP hD rfl
    refine lv_aload_n hx hb dX2_layRanges_29 rfl (lv_at hl 0 rfl) ?_
    refine va_get (D := (dC, dI)) (ci := 2) (v := .ref q_from) (C := RX2) (T := TX2) (N := 11) hx hb hts hi_2 hown hK hP 0 rfl rfl 2 (by decide) hf_18 (fun _ h9 => h9) rfl dX2_layRanges_30 ?_
    refine lv_iconst (v := 0) hx hb dX2_layRanges_33 (by decide) ?_
    refine lv_iconst (v := 0) hx hb dX2_layRanges_34 (by decide) ?_
    refine va_iast hx hb hK hP hD hS 2 0 rfl rfl (ki_inl (by decide)) dX2_layRanges_35 (fun H locs hP hD hS => ?_)
    obtain ⟨hP, hD⟩ := kx_re (w2 := [kx_2 q_t q_row q_joined q_from q_to q_size q_lossOf q_lessBy q_value q_number 0 here, kx_0 q_row q_cell len, kx_a q_from cyI 319 (upd ff (0 : Int32).toNatClampNeg 0), kx_a q_to cyI 319 ft]) hP hD rfl
    refine lv_aload_n hx hb dX2_layRanges_36 rfl (lv_at hl 0 rfl) ?_
    refine va_get (D := (dC, dI)) (ci := 2) (v := .ref q_to) (C := RX2) (T := TX2) (N := 11) hx hb hts hi_2 hown hK hP 0 rfl rfl 3 (by decide) hf_22 (fun _ h9 => h9) rfl dX2_layRanges_37 ?_
    refine lv_iconst (v := 0) hx hb dX2_layRanges_40 (by decide) ?_
    refine lv_aload_n hx hb dX2_layRanges_41 rfl (lv_at hl 0 rfl) ?_
    refine va_get (D := (dC, dI)) (ci := 2) (v := .ref q_row) (C := RX2) (T := TX2) (N := 11) hx hb hts hi_2 hown hK hP 0 rfl rfl 0 (by decide) hf_40 (fun _ h9 => h9) rfl dX2_layRanges_42 ?_
    refine va_get (D := (dC, dI)) (ci := 0) (v := .int len) (C := RX0) (T := TX0) (N := 2) hx hb hts hi_0 hown hK hP 1 rfl rfl 1 (by decide) hf_44 (fun _ h9 => h9) rfl dX2_layRanges_45 ?_
    refine va_iast hx hb hK hP hD hS 3 0 rfl rfl (ki_inl (by decide)) dX2_layRanges_48 (fun H locs hP hD hS => ?_)
    obtain ⟨hP, hD⟩ := kx_re (w2 := [kx_2 q_t q_row q_joined q_from q_to q_size q_lossOf q_lessBy q_value q_number 0 here, kx_0 q_row q_cell len, kx_a q_from cyI 319 (upd ff (0 : Int32).toNatClampNeg 0), kx_a q_to cyI 319 (upd ft (0 : Int32).toNatClampNeg len)]) hP hD rfl
    refine lv_iconst (v := 0) hx hb dX2_layRanges_49 (by decide) ?_
    refine lv_istore_n (lv' := [(1, .int 0), (0, .ref q_t)]) hx hb dX2_layRanges_50 rfl hl (by decide) rfl (fun ls hl => ?_)
    refine lv_iload_n hx hb dX2_layRanges_51 rfl (lv_at hl 0 rfl) ?_
    refine lv_aload_n hx hb dX2_layRanges_52 rfl (lv_at hl 1 rfl) ?_
    refine va_get (D := (dC, dI)) (ci := 2) (v := .int 0) (C := RX2) (T := TX2) (N := 11) hx hb hts hi_2 hown hK hP 0 rfl rfl 9 (by decide) hf_50 (fun _ h9 => h9) rfl dX2_layRanges_53 ?_
    refine lv_icmp_ge (tgt := 87) hx hb dX2_layRanges_56 (by decide) (fun c_17 => ?_) (fun c_17 => ?_)
    · have hP9 := hP
      have hD9 := hD
      have hK9 := hK
      have k_z : (0 : Int32).toInt = 0 := rfl
      exact W.vret hx hb hr (fun t ht hW => ⟨⟨(0, (upd ff (0 : Int32).toNatClampNeg 0), (upd ft (0 : Int32).toNatClampNeg len)), rfl, ⟨Or.inl ⟨by omega, rfl⟩, (fun k hk => absurd hk (by (try dsimp only); omega)), (fun k hk => absurd hk (by (try dsimp only); omega)), fun h => absurd h (by omega)⟩, by rw [ht]; exact hP9, va_K.moved hW.alike hK9, hD9⟩, hS.F ht⟩) hS.2.2 dX2_layRanges_87
    · exact absurd c_17 (by decide)



theorem mj_ask_yes {ff ft g : Nat → Int32} {nd l r : Int} {n : Nat} {none x : Int} {y : Int32} (h : mj_first (fun k => (ff k).toInt = l ∧ (ft k).toInt = r) 0 n none x) (hn : (n : Int) = nd) (hx : ¬ x = none) (hy : y = g x.toNat) : mj_ask ff ft g nd l r y := by
  rcases h with ⟨m, -, b, c, d, e⟩ | ⟨a, -⟩
  · refine Or.inl ⟨m, by omega, c.1, c.2, fun j hj => e j (Nat.zero_le j) hj, ?_⟩
    rw [hy, d]
    rfl
  · exact absurd a hx
theorem mj_ask_no {ff ft g : Nat → Int32} {nd l r : Int} {n : Nat} {none x : Int} (h : mj_first (fun k => (ff k).toInt = l ∧ (ft k).toInt = r) 0 n none x) (hn : (n : Int) = nd) (h0 : none < 0) (hx : x = none) : mj_ask ff ft g nd l r (-2) := by
  rcases h with ⟨m, a, b, c, d, e⟩ | ⟨-, b⟩
  · omega
  · exact Or.inr ⟨fun j hj => b j (Nat.zero_le j) (by omega), rfl⟩

set_option maxHeartbeats 4000000 in
set_option maxRecDepth 100000 in
theorem c_X4_laidTree_x (l : Launch) (dC : Nat → ClassId) (dI : Nat → Nat → Nat) (m_ : Nat) (q_row : Nat) (q_t : Nat) (t_ : Nat) (h0 : Nat) (k0 : Nat) (w_ : Nat) (z_ : Nat) (slots : Int32) (old : Int32) (q_joined : Nat) (q_from : Nat) (q_to : Nat) (q_size : Nat) (q_lossOf : Nat) (q_lessBy : Nat) (q_value : Nat) (q_number : Nat) (nodes : Int32) (here : Int32) (q_cell : Nat) (cyI : ClassId) (len : Int32) (f : Nat → Int32) (ff : Nat → Int32) (ft : Nat → Int32) (fs : Nat → Int32) (fo : Nat → Int32) (uv : Nat → Int32) (un : Nat → Int32) (fe : Nat → Int32) (j_v : Nat) (j_n : Nat) (js : Int32) (jl : Int32) (je : Int32) (jv : Nat → Int32) (jn : Nat → Int32) (sz : Nat) (a0 : 0 ≤ len.toInt) (a1 : len.toInt ≤ 160) (s0 : sixes fs) (sl0 : 1 ≤ slots.toInt) (sl1 : slots.toInt ≤ 6) (l0 : laidX old slots here f ff ft fs fo fe uv un nodes len) : Met l yX4_laidTree wsX4_laidTree ({ frames := 5, cells := 0, slots := 0, locals := 225 }) (va_Pc [.ref m_] (fun U => U.heap.size = sz ∧ va_P (dC, dI) vwCl [kx_4 m_ q_row q_t t_ h0 k0 w_ z_ slots old, kx_2 q_t q_row q_joined q_from q_to q_size q_lossOf q_lessBy q_value q_number nodes here, kx_0 q_row q_cell len, kx_a q_cell cyI 160 f, kx_a q_from cyI 319 ff, kx_a q_to cyI 319 ft, kx_a q_size cyI 319 fs, kx_a q_lossOf cyI 319 fo, kx_a q_lessBy cyI 319 fe, kx_a q_value cyI 1914 uv, kx_a q_number cyI 1914 un, kx_3 q_joined j_v j_n js jl je, kx_a j_v cyI 12 jv, kx_a j_n cyI 12 jn] U.heap ∧ va_K (dC, dI) vwCl [(cyI, .int)] U ∧ va_D (fun _ => True) [kx_4 m_ q_row q_t t_ h0 k0 w_ z_ slots old, kx_2 q_t q_row q_joined q_from q_to q_size q_lossOf q_lessBy q_value q_number nodes here, kx_0 q_row q_cell len, kx_a q_cell cyI 160 f, kx_a q_from cyI 319 ff, kx_a q_to cyI 319 ft, kx_a q_size cyI 319 fs, kx_a q_lossOf cyI 319 fo, kx_a q_lessBy cyI 319 fe, kx_a q_value cyI 1914 uv, kx_a q_number cyI 1914 un, kx_3 q_joined j_v j_n js jl je, kx_a j_v cyI 12 jv, kx_a j_n cyI 12 jn])) (va_Qr (fun u : Int32 × Int32 × Int32 × (Nat → Int32) × (Nat → Int32) × (Nat → Int32) × (Nat → Int32) × (Nat → Int32) × (Nat → Int32) × (Nat → Int32) × Int32 × Int32 × Int32 × (Nat → Int32) × (Nat → Int32) => u.1.toInt = 0 ∧ u.2.2.1 = slots ∧ sixes u.2.2.2.2.2.1 ∧ mj_C slots.toNatClampNeg f u.2.2.2.1 u.2.2.2.2.1 u.2.2.2.2.2.1 u.2.2.2.2.2.2.1 u.2.2.2.2.2.2.2.1 u.2.2.2.2.2.2.2.2.1 u.2.2.2.2.2.2.2.2.2.1 u.2.1.toInt len.toInt ∧ 0 ≤ u.2.1.toInt ∧ u.2.1.toInt ≤ 319 ∧ treeOk u.2.2.2.1 u.2.2.2.2.1 u.2.1.toInt len.toInt) (fun (u : Int32 × Int32 × Int32 × (Nat → Int32) × (Nat → Int32) × (Nat → Int32) × (Nat → Int32) × (Nat → Int32) × (Nat → Int32) × (Nat → Int32) × Int32 × Int32 × Int32 × (Nat → Int32) × (Nat → Int32)) (ra : Nat) (t : State) => ra = q_t ∧ va_P (dC, dI) vwCl [kx_4 m_ q_row q_t t_ h0 k0 w_ z_ slots u.1, kx_2 q_t q_row q_joined q_from q_to q_size q_lossOf q_lessBy q_value q_number u.2.1 u.2.2.1, kx_0 q_row q_cell len, kx_a q_cell cyI 160 f, kx_a q_from cyI 319 u.2.2.2.1, kx_a q_to cyI 319 u.2.2.2.2.1, kx_a q_size cyI 319 u.2.2.2.2.2.1, kx_a q_lossOf cyI 319 u.2.2.2.2.2.2.1, kx_a q_lessBy cyI 319 u.2.2.2.2.2.2.2.1, kx_a q_value cyI 1914 u.2.2.2.2.2.2.2.2.1, kx_a q_number cyI 1914 u.2.2.2.2.2.2.2.2.2.1, kx_3 q_joined j_v j_n u.2.2.2.2.2.2.2.2.2.2.1 u.2.2.2.2.2.2.2.2.2.2.2.1 u.2.2.2.2.2.2.2.2.2.2.2.2.1, kx_a j_v cyI 12 u.2.2.2.2.2.2.2.2.2.2.2.2.2.1, kx_a j_n cyI 12 u.2.2.2.2.2.2.2.2.2.2.2.2.2.2] t.heap ∧ va_K (dC, dI) vwCl [(cyI, .int)] t ∧ va_D (va_A [kx_4 m_ q_row q_t t_ h0 k0 w_ z_ slots old, kx_2 q_t q_row q_joined q_from q_to q_size q_lossOf q_lessBy q_value q_number nodes here, kx_0 q_row q_cell len, kx_a q_cell cyI 160 f, kx_a q_from cyI 319 ff, kx_a q_to cyI 319 ft, kx_a q_size cyI 319 fs, kx_a q_lossOf cyI 319 fo, kx_a q_lessBy cyI 319 fe, kx_a q_value cyI 1914 uv, kx_a q_number cyI 1914 un, kx_3 q_joined j_v j_n js jl je, kx_a j_v cyI 12 jv, kx_a j_n cyI 12 jn] sz) [kx_4 m_ q_row q_t t_ h0 k0 w_ z_ slots u.1, kx_2 q_t q_row q_joined q_from q_to q_size q_lossOf q_lessBy q_value q_number u.2.1 u.2.2.1, kx_0 q_row q_cell len, kx_a q_cell cyI 160 f, kx_a q_from cyI 319 u.2.2.2.1, kx_a q_to cyI 319 u.2.2.2.2.1, kx_a q_size cyI 319 u.2.2.2.2.2.1, kx_a q_lossOf cyI 319 u.2.2.2.2.2.2.1, kx_a q_lessBy cyI 319 u.2.2.2.2.2.2.2.1, kx_a q_value cyI 1914 u.2.2.2.2.2.2.2.2.1, kx_a q_number cyI 1914 u.2.2.2.2.2.2.2.2.2.1, kx_3 q_joined j_v j_n u.2.2.2.2.2.2.2.2.2.2.1 u.2.2.2.2.2.2.2.2.2.2.2.1 u.2.2.2.2.2.2.2.2.2.2.2.2.1, kx_a j_v cyI 12 u.2.2.2.2.2.2.2.2.2.2.2.2.2.1, kx_a j_n cyI 12 u.2.2.2.2.2.2.2.2.2.2.2.2.2.2]) (va_A [kx_4 m_ q_row q_t t_ h0 k0 w_ z_ slots old, kx_2 q_t q_row q_joined q_from q_to q_size q_lossOf q_lessBy q_value q_number nodes here, kx_0 q_row q_cell len, kx_a q_cell cyI 160 f, kx_a q_from cyI 319 ff, kx_a q_to cyI 319 ft, kx_a q_size cyI 319 fs, kx_a q_lossOf cyI 319 fo, kx_a q_lessBy cyI 319 fe, kx_a q_value cyI 1914 uv, kx_a q_number cyI 1914 un, kx_3 q_joined j_v j_n js jl je, kx_a j_v cyI 12 jv, kx_a j_n cyI 12 jn] sz)) 0 0 (va_A [kx_4 m_ q_row q_t t_ h0 k0 w_ z_ slots old, kx_2 q_t q_row q_joined q_from q_to q_size q_lossOf q_lessBy q_value q_number nodes here, kx_0 q_row q_cell len, kx_a q_cell cyI 160 f, kx_a q_from cyI 319 ff, kx_a q_to cyI 319 ft, kx_a q_size cyI 319 fs, kx_a q_lossOf cyI 319 fo, kx_a q_lessBy cyI 319 fe, kx_a q_value cyI 1914 uv, kx_a q_number cyI 1914 un, kx_3 q_joined j_v j_n js jl je, kx_a j_v cyI 12 jv, kx_a j_n cyI 12 jn] sz) := by
  refine Met.ofW (cc := cX4_laidTree) (maxL := 1) (ret := (some (.object "MajorityIndex$Tree"))) (by decide) rfl ?_
  intro p e s m args below meth c s₁ B hml hv
  obtain ⟨rfl, hsz, hP, hK, hD0⟩ := hv
  have hx := B.exec
  have hb := B.bytes
  have hr := B.returns
  have hts := atoms_spec (ws := wsX4_laidTree) B.pre
  have hown : s.vm.findClass RX4 = some m.cls := findClass_of_methodNamed B.named
  have hlocks := B.notSynchronized
  subst hsz
  have hD := hD0.self (sz := s.heap.size)
  generalize hAe : va_A [kx_4 m_ q_row q_t t_ h0 k0 w_ z_ slots old, kx_2 q_t q_row q_joined q_from q_to q_size q_lossOf q_lessBy q_value q_number nodes here, kx_0 q_row q_cell len, kx_a q_cell cyI 160 f, kx_a q_from cyI 319 ff, kx_a q_to cyI 319 ft, kx_a q_size cyI 319 fs, kx_a q_lossOf cyI 319 fo, kx_a q_lessBy cyI 319 fe, kx_a q_value cyI 1914 uv, kx_a q_number cyI 1914 un, kx_3 q_joined j_v j_n js jl je, kx_a j_v cyI 12 jv, kx_a j_n cyI 12 jn] s.heap.size = A at hD ⊢
  have hA : ∀ q : Nat, s.heap.size ≤ q → A q := fun q h => by rw [← hAe]; exact Or.inr h
  have hS : va_S A s.heap s.heap [] := va_S.rf
  have hP : va_P (dC, dI) vwCl [kx_4 m_ q_row q_t t_ h0 k0 w_ z_ slots old, kx_2 q_t q_row q_joined q_from q_to q_size q_lossOf q_lessBy q_value q_number nodes here, kx_0 q_row q_cell len, kx_a q_cell cyI 160 f, kx_a q_from cyI 319 ff, kx_a q_to cyI 319 ft, kx_a q_size cyI 319 fs, kx_a q_lossOf cyI 319 fo, kx_a q_lessBy cyI 319 fe, kx_a q_value cyI 1914 uv, kx_a q_number cyI 1914 un, kx_3 q_joined j_v j_n js jl je, kx_a j_v cyI 12 jv, kx_a j_n cyI 12 jn] s.heap := hP
  have hl := lv_entry ([.ref m_]) (n := 1) (Nat.le_of_ble_eq_true rfl)
  rw [lg_entry_eq]
  generalize (lg_sl ([.ref m_]) ++ List.replicate (1 - (lg_sl ([.ref m_])).length) Slot.unset).toArray = ls at hl ⊢
  have hl : lv_has ls 1 [(0, .ref m_)] := hl
  have hf_53 := hts (.fieldLink RX4 53 "MajorityIndex" "treeIsOld" "Z") (List.mem_of_getElem? (i := 1) rfl)
  have hi_4 : ∀ w ∈ u_ws RX4 TX4 9, w ∈ wsX4_laidTree := fun w h => List.mem_cons_of_mem _ (List.mem_append_left _ (List.mem_append_left _ (List.mem_append_left _ (List.mem_append_right _ h))))
  have hf_21 := hts (.fieldLink RX4 21 "MajorityIndex" "tree" "LMajorityIndex$Tree;") (List.mem_of_getElem? (i := 2) rfl)
  have hf_49 := hts (.fieldLink RX4 49 "MajorityIndex" "slotsNow" "I") (List.mem_of_getElem? (i := 3) rfl)
  have hf_204 := hts (.fieldLink RX4 204 "MajorityIndex$Tree" "slotsHere" "I") (List.mem_of_getElem? (i := 4) rfl)
  have hi_2 : ∀ w ∈ u_ws RX2 TX2 11, w ∈ wsX4_laidTree := fun w h => List.mem_cons_of_mem _ (List.mem_append_left _ (List.mem_append_left _ (List.mem_append_right _ h)))
  have hf_12 := hts (.fieldLink RX4 12 "MajorityIndex" "row" "LMajorityIndex$Row;") (List.mem_of_getElem? (i := 5) rfl)
  have hf_57 := hts (.fieldLink RX4 57 "MajorityIndex$Row" "length" "I") (List.mem_of_getElem? (i := 6) rfl)
  have hi_0 : ∀ w ∈ u_ws RX0 TX0 2, w ∈ wsX4_laidTree := fun w h => List.mem_cons_of_mem _ (List.mem_append_left _ (List.mem_append_right _ h))
  refine lv_aload_n hx hb dX4_laidTree_0 rfl (lv_at hl 0 rfl) ?_
  refine va_get (D := (dC, dI)) (ci := 4) (v := .int old) (C := RX4) (T := TX4) (N := 9) hx hb hts hi_4 hown hK hP 0 rfl rfl 8 (by decide) hf_53 (fun _ h9 => h9) rfl dX4_laidTree_1 ?_
  refine lv_if_eq (tgt := 46) hx hb dX4_laidTree_4 (by decide) (fun c_1 => ?_) (fun c_1 => ?_)
  · have i_1 : old.toInt = 0 := kc_eq c_1
    refine lv_aload_n hx hb dX4_laidTree_46 rfl (lv_at hl 0 rfl) ?_
    refine va_get (D := (dC, dI)) (ci := 4) (v := .ref q_t) (C := RX4) (T := TX4) (N := 9) hx hb hts hi_4 hown hK hP 0 rfl rfl 1 (by decide) hf_21 (fun _ h9 => h9) rfl dX4_laidTree_47 ?_
    have hP9 := hP
    have hD9 := hD
    have hK9 := hK
    have h_l := l0 (by omega)
    exact W.aret hx hb hr (Or.inl ⟨_, rfl⟩) (Or.inr ⟨_, rfl⟩) (fun t ht hW => ⟨⟨(old, nodes, here, ff, ft, fs, fo, fe, uv, un, js, jl, je, jv, jn), q_t, rfl, ⟨(by (try dsimp only); omega), h_l.1, s0, h_l.2, h_l.2.1, h_l.2.2.1, h_l.2.2.2.2.1⟩, rfl, by rw [ht]; exact hP9, va_K.moved hW.alike hK9, hD9⟩, hS.F ht⟩) hS.2.2 dX4_laidTree_50
  · have i_1 : ¬ old.toInt = 0 := kc_ne c_1
    refine lv_aload_n hx hb dX4_laidTree_7 rfl (lv_at hl 0 rfl) ?_
    refine va_get (D := (dC, dI)) (ci := 4) (v := .ref q_t) (C := RX4) (T := TX4) (N := 9) hx hb hts hi_4 hown hK hP 0 rfl rfl 1 (by decide) hf_21 (fun _ h9 => h9) rfl dX4_laidTree_8 ?_
    obtain ⟨hPc, hDc, hFc, hCc⟩ := kx_pre (wc := [kx_2 q_t q_row q_joined q_from q_to q_size q_lossOf q_lessBy q_value q_number nodes here, kx_0 q_row q_cell len, kx_a q_from cyI 319 ff, kx_a q_to cyI 319 ft]) hP hD hS hA [1, 2, 4, 5] (by decide) rfl
    have hKc := hK
    refine va_callv (va_runV (As := []) (rest := []) ⟨hx, hb, hml, hown, hts⟩ (c_X2_layRanges_x l dC dI q_t q_row q_joined q_from q_to q_size q_lossOf q_lessBy q_value q_number nodes here q_cell cyI len ff ft s.heap.size a0 a1) (cwV 0 hts gX4_laidTree_X2_layRanges rfl rfl rfl (by decide +kernel) ⟨Nat.le_of_ble_eq_true rfl, Nat.le_of_ble_eq_true rfl⟩) ⟨fun a U g mk q => by obtain ⟨q0, q1, qP, qK, qD⟩ := q; exact ⟨q0, q1, qP, va_K.moved (u := U) (U := U.calling g mk a) (Vm.Alike.refl U.vm) qK, qD⟩, va_recv hKc hPc (ci := 2) (q0 := 0) rfl rfl, fun U hU hW => ⟨rfl, by rw [hU], by rw [hU]; exact hPc, va_K.moved hW.alike hKc, hDc.weaken (fun _ _ _ _ => trivial)⟩⟩ rfl rfl hl.1 rfl (lv_room (Nat.le_of_ble_eq_true rfl)) dX4_laidTree_11 ⟨Nat.le_of_ble_eq_true rfl, Nat.le_of_ble_eq_true rfl⟩) hS (fun q _ h => hFc q h) hFc (fun u t H1 locs ht hvm w_2 hB hz1 hk1 hS => ?_)
    obtain ⟨o_3, o_4, o_5⟩ := u
    dsimp only at w_2 hB
    obtain ⟨hP1, hK1, hD1⟩ := hB
    rw [ht] at hP1
    have hK1 := va_K.moved hvm.symm hK1
    obtain ⟨hP, hD⟩ := kx_join (w2 := [kx_4 m_ q_row q_t t_ h0 k0 w_ z_ slots old, kx_a q_cell cyI 160 f, kx_a q_size cyI 319 fs, kx_a q_lossOf cyI 319 fo, kx_a q_lessBy cyI 319 fe, kx_a q_value cyI 1914 uv, kx_a q_number cyI 1914 un, kx_3 q_joined j_v j_n js jl je, kx_a j_v cyI 12 jv, kx_a j_n cyI 12 jn, kx_2 q_t q_row q_joined q_from q_to q_size q_lossOf q_lessBy q_value q_number o_3 here, kx_0 q_row q_cell len, kx_a q_from cyI 319 o_4, kx_a q_to cyI 319 o_5]) hP hD hP1 hD1 hk1 hFc [1, 2, 4, 5] [0, 3, 6, 7, 8, 9, 10, 11, 12, 13] hCc rfl (by decide) (by decide)
    clear hP1 hD1 hK1 hk1 hz1 hFc hDc hPc hKc hCc
    generalize H1 = H at hP hS ⊢
    have w_2 : ((len.toInt = 0 ∧ o_3.toInt = 0) ∨ (0 < len.toInt ∧ o_3.toInt = 2 * len.toInt - 1)) ∧ treeOk o_4 o_5 o_3.toInt len.toInt ∧ mj_cr o_4 o_5 o_3.toInt ∧ mj_rt o_4 o_5 len.toInt := w_2
    refine lv_aload_n hx hb dX4_laidTree_14 rfl (lv_at hl 0 rfl) ?_
    refine va_get (D := (dC, dI)) (ci := 4) (v := .ref q_t) (C := RX4) (T := TX4) (N := 9) hx hb hts hi_4 hown hK hP 0 rfl rfl 1 (by decide) hf_21 (fun _ h9 => h9) rfl dX4_laidTree_15 ?_
    refine lv_aload_n hx hb dX4_laidTree_18 rfl (lv_at hl 0 rfl) ?_
    refine va_get (D := (dC, dI)) (ci := 4) (v := .int slots) (C := RX4) (T := TX4) (N := 9) hx hb hts hi_4 hown hK hP 0 rfl rfl 7 (by decide) hf_49 (fun _ h9 => h9) rfl dX4_laidTree_19 ?_
    refine va_put (D := (dC, dI)) (ci := 2) (v := .int slots) (ty := .int) (C := RX2) (T := TX2) (N := 11) hx hb hts hi_2 tyX2 tyX2_ok nmX2 hown hK hP hD hS 10 rfl rfl 10 (by decide) hf_204 (fun _ h9 => h9) rfl (by decide +kernel) rfl rfl (Nat.le_of_ble_eq_true rfl) dX4_laidTree_22 (fun H locs hP hD hS => ?_)
    obtain ⟨hP, hD⟩ := kx_re (w2 := [kx_4 m_ q_row q_t t_ h0 k0 w_ z_ slots old, kx_a q_cell cyI 160 f, kx_a q_size cyI 319 fs, kx_a q_lossOf cyI 319 fo, kx_a q_lessBy cyI 319 fe, kx_a q_value cyI 1914 uv, kx_a q_number cyI 1914 un, kx_3 q_joined j_v j_n js jl je, kx_a j_v cyI 12 jv, kx_a j_n cyI 12 jn, kx_2 q_t q_row q_joined q_from q_to q_size q_lossOf q_lessBy q_value q_number o_3 slots, kx_0 q_row q_cell len, kx_a q_from cyI 319 o_4, kx_a q_to cyI 319 o_5]) hP hD rfl
    refine lv_aload_n hx hb dX4_laidTree_25 rfl (lv_at hl 0 rfl) ?_
    refine va_get (D := (dC, dI)) (ci := 4) (v := .ref q_t) (C := RX4) (T := TX4) (N := 9) hx hb hts hi_4 hown hK hP 0 rfl rfl 1 (by decide) hf_21 (fun _ h9 => h9) rfl dX4_laidTree_26 ?_
    refine lv_iconst (v := 0) hx hb dX4_laidTree_29 (by decide) ?_
    refine lv_aload_n hx hb dX4_laidTree_30 rfl (lv_at hl 0 rfl) ?_
    refine va_get (D := (dC, dI)) (ci := 4) (v := .ref q_row) (C := RX4) (T := TX4) (N := 9) hx hb hts hi_4 hown hK hP 0 rfl rfl 0 (by decide) hf_12 (fun _ h9 => h9) rfl dX4_laidTree_31 ?_
    refine va_get (D := (dC, dI)) (ci := 0) (v := .int len) (C := RX0) (T := TX0) (N := 2) hx hb hts hi_0 hown hK hP 11 rfl rfl 1 (by decide) hf_57 (fun _ h9 => h9) rfl dX4_laidTree_34 ?_
    obtain ⟨hPc, hDc, hFc, hCc⟩ := kx_pre (wc := [kx_2 q_t q_row q_joined q_from q_to q_size q_lossOf q_lessBy q_value q_number o_3 slots, kx_0 q_row q_cell len, kx_a q_cell cyI 160 f, kx_a q_from cyI 319 o_4, kx_a q_to cyI 319 o_5, kx_a q_size cyI 319 fs, kx_a q_lossOf cyI 319 fo, kx_a q_lessBy cyI 319 fe, kx_a q_value cyI 1914 uv, kx_a q_number cyI 1914 un, kx_3 q_joined j_v j_n js jl je, kx_a j_v cyI 12 jv, kx_a j_n cyI 12 jn]) hP hD hS hA [10, 11, 1, 12, 13, 2, 3, 4, 5, 6, 7, 8, 9] (by decide) rfl
    have hKc := hK
    have k_6 : (0 : Int32).toInt = 0 := rfl
    refine va_calli (va_runV (As := [.int 0, .int len]) (rest := []) ⟨hx, hb, hml, hown, hts⟩ (c_X2_renew_x l dC dI q_t q_row q_joined q_from q_to q_size q_lossOf q_lessBy q_value q_number o_3 slots q_cell cyI len f o_4 o_5 fs fo uv un fe j_v j_n js jl je jv jn 0 len H.size (by omega) (by omega) a1 s0 w_2.2.1 sl0 sl1 w_2.2.2.1 (fun k hk hn => absurd (show mj_hit _ _ _ _ _ from ⟨by have := w_2.2.1 k hk; unfold okAt at this; omega, by have := w_2.2.1 k hk; unfold okAt at this; omega⟩) hn)) (cwV 2 hts gX4_laidTree_X2_renew rfl rfl rfl (by decide +kernel) ⟨Nat.le_of_ble_eq_true rfl, Nat.le_of_ble_eq_true rfl⟩) ⟨fun a U g mk q => by obtain ⟨q0, q1, qP, qK, qD⟩ := q; exact ⟨q0, q1, qP, va_K.moved (u := U) (U := U.calling g mk a) (Vm.Alike.refl U.vm) qK, qD⟩, va_recv hKc hPc (ci := 2) (q0 := 0) rfl rfl, fun U hU hW => ⟨rfl, by rw [hU], by rw [hU]; exact hPc, va_K.moved hW.alike hKc, hDc.weaken (fun _ _ _ _ => trivial)⟩⟩ rfl rfl hl.1 rfl (lv_room (Nat.le_of_ble_eq_true rfl)) dX4_laidTree_37 ⟨Nat.le_of_ble_eq_true rfl, Nat.le_of_ble_eq_true rfl⟩) hS (fun q _ h => hFc q h) hFc (fun r_7 u t H1 locs ht hvm w_7 hB hz1 hk1 hS => ?_)
    obtain ⟨o_8, o_9, o_10, o_11, o_12, o_13, o_14, o_15, o_16, o_17⟩ := u
    dsimp only at w_7 hB
    obtain ⟨hP1, hK1, hD1⟩ := hB
    rw [ht] at hP1
    have hK1 := va_K.moved hvm.symm hK1
    obtain ⟨hP, hD⟩ := kx_join (w2 := [kx_4 m_ q_row q_t t_ h0 k0 w_ z_ slots old, kx_2 q_t q_row q_joined q_from q_to q_size q_lossOf q_lessBy q_value q_number o_3 slots, kx_0 q_row q_cell len, kx_a q_cell cyI 160 f, kx_a q_from cyI 319 o_4, kx_a q_to cyI 319 o_5, kx_a q_size cyI 319 o_8, kx_a q_lossOf cyI 319 o_9, kx_a q_lessBy cyI 319 o_10, kx_a q_value cyI 1914 o_11, kx_a q_number cyI 1914 o_12, kx_3 q_joined j_v j_n o_13 o_14 o_15, kx_a j_v cyI 12 o_16, kx_a j_n cyI 12 o_17]) hP hD hP1 hD1 hk1 hFc [10, 11, 1, 12, 13, 2, 3, 4, 5, 6, 7, 8, 9] [0] hCc rfl (by decide) (by decide)
    clear hP1 hD1 hK1 hk1 hz1 hFc hDc hPc hKc hCc
    generalize H1 = H at hP hS ⊢
    have w_7 : sixes o_8 ∧ ∀ k : Nat, (k : Int) < o_3.toInt → mj_ok slots.toNatClampNeg f o_4 o_5 o_8 o_9 o_10 o_11 o_12 k := w_7
    refine lv_pop hx hb dX4_laidTree_40 rfl ?_
    refine lv_aload_n hx hb dX4_laidTree_41 rfl (lv_at hl 0 rfl) ?_
    refine lv_iconst (v := 0) hx hb dX4_laidTree_42 (by decide) ?_
    refine va_put (D := (dC, dI)) (ci := 4) (v := .int 0) (ty := .boolean) (C := RX4) (T := TX4) (N := 9) hx hb hts hi_4 tyX4 tyX4_ok nmX4 hown hK hP hD hS 0 rfl rfl 8 (by decide) hf_53 (fun _ h9 => h9) rfl (by decide +kernel) (by decide) (by decide) (Nat.le_of_ble_eq_true rfl) dX4_laidTree_43 (fun H locs hP hD hS => ?_)
    obtain ⟨hP, hD⟩ := kx_re (w2 := [kx_4 m_ q_row q_t t_ h0 k0 w_ z_ slots 0, kx_2 q_t q_row q_joined q_from q_to q_size q_lossOf q_lessBy q_value q_number o_3 slots, kx_0 q_row q_cell len, kx_a q_cell cyI 160 f, kx_a q_from cyI 319 o_4, kx_a q_to cyI 319 o_5, kx_a q_size cyI 319 o_8, kx_a q_lossOf cyI 319 o_9, kx_a q_lessBy cyI 319 o_10, kx_a q_value cyI 1914 o_11, kx_a q_number cyI 1914 o_12, kx_3 q_joined j_v j_n o_13 o_14 o_15, kx_a j_v cyI 12 o_16, kx_a j_n cyI 12 o_17]) hP hD rfl
    refine lv_aload_n hx hb dX4_laidTree_46 rfl (lv_at hl 0 rfl) ?_
    refine va_get (D := (dC, dI)) (ci := 4) (v := .ref q_t) (C := RX4) (T := TX4) (N := 9) hx hb hts hi_4 hown hK hP 0 rfl rfl 1 (by decide) hf_21 (fun _ h9 => h9) rfl dX4_laidTree_47 ?_
    have hP9 := hP
    have hD9 := hD
    have hK9 := hK
    exact W.aret hx hb hr (Or.inl ⟨_, rfl⟩) (Or.inr ⟨_, rfl⟩) (fun t ht hW => ⟨⟨(0, o_3, slots, o_4, o_5, o_8, o_9, o_10, o_11, o_12, o_13, o_14, o_15, o_16, o_17), q_t, rfl, ⟨rfl, rfl, w_7.1, ⟨(by (try dsimp only); omega), (by (try dsimp only); omega), (by (try dsimp only); omega), w_2.2.1, w_2.2.2.1, w_2.2.2.2, w_7.2⟩, (by (try dsimp only); omega), (by (try dsimp only); omega), w_2.2.1⟩, rfl, by rw [ht]; exact hP9, va_K.moved hW.alike hK9, hD9⟩, hS.F ht⟩) hS.2.2 dX4_laidTree_50

set_option maxHeartbeats 4000000 in
set_option maxRecDepth 100000 in
theorem c_X2_find_x (l : Launch) (dC : Nat → ClassId) (dI : Nat → Nat → Nat) (q_t : Nat) (q_row : Nat) (q_joined : Nat) (q_from : Nat) (q_to : Nat) (q_size : Nat) (q_lossOf : Nat) (q_lessBy : Nat) (q_value : Nat) (q_number : Nat) (nodes : Int32) (here : Int32) (cyI : ClassId) (ff : Nat → Int32) (ft : Nat → Int32) (p0 : Int32) (p1 : Int32) (b0 : 0 ≤ nodes.toInt) (c0 : nodes.toInt ≤ 319) : Met l yX2_find wsX2_find ({ frames := 0, cells := 0, slots := 0, locals := 0 }) (va_Pc [.ref q_t, .int p0, .int p1] (fun U => va_P (dC, dI) vwCl [kx_2 q_t q_row q_joined q_from q_to q_size q_lossOf q_lessBy q_value q_number nodes here, kx_a q_from cyI 319 ff, kx_a q_to cyI 319 ft] U.heap ∧ va_K (dC, dI) vwCl [(cyI, .int)] U)) (vp_Si (fun r : Int32 => mj_first (fun k => (ff k).toInt = p0.toInt ∧ (ft k).toInt = p1.toInt) 0 nodes.toNatClampNeg (-1) r.toInt ∧ (r.toInt = -1 ∨ (0 ≤ r.toInt ∧ r.toInt < nodes.toInt)))) 0 0 (fun _ => False) := by
  refine Met.ofW (cc := cX2_find) (maxL := 4) (ret := (some .int)) (by decide) rfl ?_
  intro p e s m args below meth c s₁ B hml hv
  obtain ⟨rfl, hP, hK⟩ := hv
  have hx := B.exec
  have hb := B.bytes
  have hr := B.returns
  have hts := atoms_spec (ws := wsX2_find) B.pre
  have hown : s.vm.findClass RX2 = some m.cls := findClass_of_methodNamed B.named
  have hlocks := B.notSynchronized
  have hP : va_P (dC, dI) vwCl [kx_2 q_t q_row q_joined q_from q_to q_size q_lossOf q_lessBy q_value q_number nodes here, kx_a q_from cyI 319 ff, kx_a q_to cyI 319 ft] s.heap := hP
  have hl := lv_entry ([.ref q_t, .int p0, .int p1]) (n := 4) (Nat.le_of_ble_eq_true rfl)
  rw [lg_entry_eq]
  generalize (lg_sl ([.ref q_t, .int p0, .int p1]) ++ List.replicate (4 - (lg_sl ([.ref q_t, .int p0, .int p1])).length) Slot.unset).toArray = ls at hl ⊢
  have hl : lv_has ls 4 [(0, .ref q_t), (1, .int p0), (2, .int p1)] := hl
  have hf_50 := hts (.fieldLink RX2 50 "MajorityIndex$Tree" "nodes" "I") (List.mem_of_getElem? (i := 1) rfl)
  have hi_2 : ∀ w ∈ u_ws RX2 TX2 11, w ∈ wsX2_find := fun w h => List.mem_cons_of_mem _ (List.mem_append_right _ h)
  have hf_18 := hts (.fieldLink RX2 18 "MajorityIndex$Tree" "from" "[I") (List.mem_of_getElem? (i := 2) rfl)
  have hf_22 := hts (.fieldLink RX2 22 "MajorityIndex$Tree" "to" "[I") (List.mem_of_getElem? (i := 3) rfl)
  have n_nd := ki_nat nodes rfl (om_8 b0)
  refine lv_iconst (v := 0) hx hb dX2_find_0 (by decide) ?_
  refine lv_istore_n (lv' := [(3, .int 0), (0, .ref q_t), (1, .int p0), (2, .int p1)]) hx hb dX2_find_1 rfl hl (by decide) rfl (fun ls hl => ?_)
  have LP1 : ∀ (n : Nat) (i : Int32), (0 ≤ i.toInt) → (∀ k : Nat, 0 ≤ k → k < i.toNatClampNeg → ¬ ((ff k).toInt = p0.toInt ∧ (ft k).toInt = p1.toInt)) → (i.toInt ≤ nodes.toInt) → (nodes.toInt - i.toInt).toNat < n → ∀ (ls : Array Slot), lv_has ls 4 [(3, .int i), (0, .ref q_t), (1, .int p0), (2, .int p1)] → W p l e (headSpec wsX2_find ({ frames := 0, cells := 0, slots := 0, locals := 0 })).room s m ([.ref q_t, .int p0, .int p1] : List Value).toArray below meth c s.heap [] 0 0 (MQ below (vp_Si (fun r : Int32 => mj_first (fun k => (ff k).toInt = p0.toInt ∧ (ft k).toInt = p1.toInt) 0 nodes.toNatClampNeg (-1) r.toInt ∧ (r.toInt = -1 ∨ (0 ≤ r.toInt ∧ r.toInt < nodes.toInt)))) ([.ref q_t, .int p0, .int p1] : List Value).toArray s 0 0 (fun _ => False)) (F0 m 2 ls []) := by
    intro n
    induction n with
    | zero => intro i LP1_h0 LP1_h1 LP1_h2 hn; exact absurd hn (Nat.not_lt_zero _)
    | succ n ih1 =>
      intro i LP1_h0 LP1_h1 LP1_h2 hn1 ls hl
      have n_i := ki_nat i rfl (om_8 LP1_h0)
      refine lv_iload_n hx hb dX2_find_2 rfl (lv_at hl 0 rfl) ?_
      refine lv_aload_n hx hb dX2_find_3 rfl (lv_at hl 1 rfl) ?_
      refine va_get (D := (dC, dI)) (ci := 2) (v := .int nodes) (C := RX2) (T := TX2) (N := 11) hx hb hts hi_2 hown hK hP 0 rfl rfl 9 (by decide) hf_50 (fun _ h9 => h9) rfl dX2_find_4 ?_
      refine lv_icmp_ge (tgt := 38) hx hb dX2_find_7 (by decide) (fun c_1 => ?_) (fun c_1 => ?_)
      · have i_1 : nodes.toInt ≤ i.toInt := kc_le c_1
        refine lv_iconst (v := (-1)) hx hb dX2_find_38 (by decide) ?_
        have k_n : (-1 : Int32).toInt = -1 := rfl
        exact W.iret (v := (-1)) hx hb hr (fun t ht hW => ⟨(-1), rfl, ⟨Or.inr ⟨rfl, fun k h1 hk => LP1_h1 k h1 (by (try dsimp only); omega)⟩, (by (try dsimp only); omega)⟩, ht⟩) (fun q hq => by cases hq) dX2_find_39
      · have i_1 : i.toInt < nodes.toInt := kc_nle c_1
        refine lv_aload_n hx hb dX2_find_10 rfl (lv_at hl 1 rfl) ?_
        refine va_get (D := (dC, dI)) (ci := 2) (v := .ref q_from) (C := RX2) (T := TX2) (N := 11) hx hb hts hi_2 hown hK hP 0 rfl rfl 2 (by decide) hf_18 (fun _ h9 => h9) rfl dX2_find_11 ?_
        refine lv_iload_n hx hb dX2_find_14 rfl (lv_at hl 0 rfl) ?_
        refine va_iald hx hb hK hP 1 0 rfl rfl (ki_in (om_8 LP1_h0) (om_106 c0 i_1)) dX2_find_15 ?_
        refine lv_topi (fun y_2 ey_2 => ?_)
        have j_2 : y_2.toInt = (ff i.toNatClampNeg).toInt := congrArg Int32.toInt ey_2
        refine lv_iload_n hx hb dX2_find_16 rfl (lv_at hl 2 rfl) ?_
        refine lv_icmp_ne (tgt := 32) hx hb dX2_find_17 (by decide) (fun c_3 => ?_) (fun c_3 => ?_)
        · have i_3 : ¬ y_2.toInt = p0.toInt := kc_ne c_3
          obtain ⟨x_4, ex_4⟩ : ∃ y : Int32, y = i + 1 := ⟨_, rfl⟩
          have i_4 : x_4.toInt = i.toInt + 1 := ki_add ex_4 rfl rfl (om_10 LP1_h0) (om_322 c0 LP1_h2)
          refine lv_iinc (v := x_4) (lv' := [(3, .int x_4), (0, .ref q_t), (1, .int p0), (2, .int p1)]) hx hb dX2_find_32 hl (k := 0) rfl (by rw [ex_4]; rfl) (by decide) rfl (fun ls hl => ?_)
          refine lv_goto (tgt := 2) hx hb dX2_find_35 (by decide) ?_
          have n_5 := ki_nat x_4 rfl (om_31 LP1_h0 i_4)
          exact ih1 x_4 (om_31 LP1_h0 i_4) (fun k _ hk => if h9 : k < i.toNatClampNeg then LP1_h1 k (Nat.zero_le k) h9 else (by rw [show k = i.toNatClampNeg by omega]; exact fun h => by omega)) (om_47 i_1 i_4) (om_mu hn1 (om_5 i_4) (om_6 i_1)) ls (lv_sub hl [0, 1, 2, 3] rfl)
        · have i_3 : y_2.toInt = p0.toInt := kc_eq c_3
          refine lv_aload_n hx hb dX2_find_20 rfl (lv_at hl 1 rfl) ?_
          refine va_get (D := (dC, dI)) (ci := 2) (v := .ref q_to) (C := RX2) (T := TX2) (N := 11) hx hb hts hi_2 hown hK hP 0 rfl rfl 3 (by decide) hf_22 (fun _ h9 => h9) rfl dX2_find_21 ?_
          refine lv_iload_n hx hb dX2_find_24 rfl (lv_at hl 0 rfl) ?_
          refine va_iald hx hb hK hP 2 0 rfl rfl (ki_in (om_8 LP1_h0) (om_106 c0 i_1)) dX2_find_25 ?_
          refine lv_topi (fun y_6 ey_6 => ?_)
          have j_6 : y_6.toInt = (ft i.toNatClampNeg).toInt := congrArg Int32.toInt ey_6
          refine lv_iload_n hx hb dX2_find_26 rfl (lv_at hl 3 rfl) ?_
          refine lv_icmp_ne (tgt := 32) hx hb dX2_find_27 (by decide) (fun c_7 => ?_) (fun c_7 => ?_)
          · have i_7 : ¬ y_6.toInt = p1.toInt := kc_ne c_7
            obtain ⟨x_8, ex_8⟩ : ∃ y : Int32, y = i + 1 := ⟨_, rfl⟩
            have i_8 : x_8.toInt = i.toInt + 1 := ki_add ex_8 rfl rfl (om_10 LP1_h0) (om_322 c0 LP1_h2)
            refine lv_iinc (v := x_8) (lv' := [(3, .int x_8), (0, .ref q_t), (1, .int p0), (2, .int p1)]) hx hb dX2_find_32 hl (k := 0) rfl (by rw [ex_8]; rfl) (by decide) rfl (fun ls hl => ?_)
            refine lv_goto (tgt := 2) hx hb dX2_find_35 (by decide) ?_
            have n_9 := ki_nat x_8 rfl (om_31 LP1_h0 i_8)
            exact ih1 x_8 (om_31 LP1_h0 i_8) (fun k _ hk => if h9 : k < i.toNatClampNeg then LP1_h1 k (Nat.zero_le k) h9 else (by rw [show k = i.toNatClampNeg by omega]; exact fun h => by omega)) (om_47 i_1 i_8) (om_mu hn1 (om_5 i_8) (om_6 i_1)) ls (lv_sub hl [0, 1, 2, 3] rfl)
          · have i_7 : y_6.toInt = p1.toInt := kc_eq c_7
            refine lv_iload_n hx hb dX2_find_30 rfl (lv_at hl 0 rfl) ?_
            exact W.iret (v := i) hx hb hr (fun t ht hW => ⟨i, rfl, ⟨Or.inl ⟨i.toNatClampNeg, Nat.zero_le _, (by (try dsimp only); omega), ⟨(by (try dsimp only); omega), (by (try dsimp only); omega)⟩, (by (try dsimp only); omega), fun k h1 hk => LP1_h1 k h1 hk⟩, (by (try dsimp only); omega)⟩, ht⟩) (fun q hq => by cases hq) dX2_find_31
  have k_10 : (0 : Int32).toInt = 0 := rfl
  exact LP1 ((nodes.toInt - 0 : Int).toNat + 1) 0 om_32 (fun k _ hk => absurd hk (Nat.not_lt_zero k)) (om_8 b0) (Nat.lt_succ_self _) ls (lv_sub hl [0, 1, 2, 3] rfl)

set_option maxHeartbeats 4000000 in
set_option maxRecDepth 100000 in
theorem c_X4_node_x (l : Launch) (dC : Nat → ClassId) (dI : Nat → Nat → Nat) (m_ : Nat) (q_row : Nat) (q_t : Nat) (t_ : Nat) (h0 : Nat) (k0 : Nat) (w_ : Nat) (z_ : Nat) (slots : Int32) (old : Int32) (q_joined : Nat) (q_from : Nat) (q_to : Nat) (q_size : Nat) (q_lossOf : Nat) (q_lessBy : Nat) (q_value : Nat) (q_number : Nat) (nodes : Int32) (here : Int32) (q_cell : Nat) (cyI : ClassId) (len : Int32) (f : Nat → Int32) (ff : Nat → Int32) (ft : Nat → Int32) (fs : Nat → Int32) (fo : Nat → Int32) (uv : Nat → Int32) (un : Nat → Int32) (fe : Nat → Int32) (j_v : Nat) (j_n : Nat) (js : Int32) (jl : Int32) (je : Int32) (jv : Nat → Int32) (jn : Nat → Int32) (p0 : Int32) (p1 : Int32) (sz : Nat) (a0 : 0 ≤ len.toInt) (a1 : len.toInt ≤ 160) (s0 : sixes fs) (sl0 : 1 ≤ slots.toInt) (sl1 : slots.toInt ≤ 6) (l0 : laidX old slots here f ff ft fs fo fe uv un nodes len) : Met l yX4_node wsX4_node ({ frames := 6, cells := 0, slots := 0, locals := 270 }) (va_Pc [.ref m_, .int p0, .int p1] (fun U => U.heap.size = sz ∧ va_P (dC, dI) vwCl [kx_4 m_ q_row q_t t_ h0 k0 w_ z_ slots old, kx_2 q_t q_row q_joined q_from q_to q_size q_lossOf q_lessBy q_value q_number nodes here, kx_0 q_row q_cell len, kx_a q_cell cyI 160 f, kx_a q_from cyI 319 ff, kx_a q_to cyI 319 ft, kx_a q_size cyI 319 fs, kx_a q_lossOf cyI 319 fo, kx_a q_lessBy cyI 319 fe, kx_a q_value cyI 1914 uv, kx_a q_number cyI 1914 un, kx_3 q_joined j_v j_n js jl je, kx_a j_v cyI 12 jv, kx_a j_n cyI 12 jn] U.heap ∧ va_K (dC, dI) vwCl [(cyI, .int)] U ∧ va_D (fun _ => True) [kx_4 m_ q_row q_t t_ h0 k0 w_ z_ slots old, kx_2 q_t q_row q_joined q_from q_to q_size q_lossOf q_lessBy q_value q_number nodes here, kx_0 q_row q_cell len, kx_a q_cell cyI 160 f, kx_a q_from cyI 319 ff, kx_a q_to cyI 319 ft, kx_a q_size cyI 319 fs, kx_a q_lossOf cyI 319 fo, kx_a q_lessBy cyI 319 fe, kx_a q_value cyI 1914 uv, kx_a q_number cyI 1914 un, kx_3 q_joined j_v j_n js jl je, kx_a j_v cyI 12 jv, kx_a j_n cyI 12 jn])) (va_Qi (fun (r : Int32) (u : Int32 × Int32 × Int32 × (Nat → Int32) × (Nat → Int32) × (Nat → Int32) × (Nat → Int32) × (Nat → Int32) × (Nat → Int32) × (Nat → Int32) × Int32 × Int32 × Int32 × (Nat → Int32) × (Nat → Int32)) => (((0 ≤ p0.toInt ∧ p0.toInt < p1.toInt ∧ p1.toInt ≤ len.toInt) ∧ u.1.toInt = 0 ∧ mj_ask u.2.2.2.1 u.2.2.2.2.1 u.2.2.2.2.2.1 u.2.1.toInt p0.toInt p1.toInt r) ∨ ((p0.toInt < 0 ∨ p1.toInt ≤ p0.toInt ∨ len.toInt < p1.toInt) ∧ r = -1)) ∧ laidX u.1 slots u.2.2.1 f u.2.2.2.1 u.2.2.2.2.1 u.2.2.2.2.2.1 u.2.2.2.2.2.2.1 u.2.2.2.2.2.2.2.1 u.2.2.2.2.2.2.2.2.1 u.2.2.2.2.2.2.2.2.2.1 u.2.1 len ∧ sixes u.2.2.2.2.2.1) (fun (u : Int32 × Int32 × Int32 × (Nat → Int32) × (Nat → Int32) × (Nat → Int32) × (Nat → Int32) × (Nat → Int32) × (Nat → Int32) × (Nat → Int32) × Int32 × Int32 × Int32 × (Nat → Int32) × (Nat → Int32)) (t : State) => va_P (dC, dI) vwCl [kx_4 m_ q_row q_t t_ h0 k0 w_ z_ slots u.1, kx_2 q_t q_row q_joined q_from q_to q_size q_lossOf q_lessBy q_value q_number u.2.1 u.2.2.1, kx_0 q_row q_cell len, kx_a q_cell cyI 160 f, kx_a q_from cyI 319 u.2.2.2.1, kx_a q_to cyI 319 u.2.2.2.2.1, kx_a q_size cyI 319 u.2.2.2.2.2.1, kx_a q_lossOf cyI 319 u.2.2.2.2.2.2.1, kx_a q_lessBy cyI 319 u.2.2.2.2.2.2.2.1, kx_a q_value cyI 1914 u.2.2.2.2.2.2.2.2.1, kx_a q_number cyI 1914 u.2.2.2.2.2.2.2.2.2.1, kx_3 q_joined j_v j_n u.2.2.2.2.2.2.2.2.2.2.1 u.2.2.2.2.2.2.2.2.2.2.2.1 u.2.2.2.2.2.2.2.2.2.2.2.2.1, kx_a j_v cyI 12 u.2.2.2.2.2.2.2.2.2.2.2.2.2.1, kx_a j_n cyI 12 u.2.2.2.2.2.2.2.2.2.2.2.2.2.2] t.heap ∧ va_K (dC, dI) vwCl [(cyI, .int)] t ∧ va_D (va_A [kx_4 m_ q_row q_t t_ h0 k0 w_ z_ slots old, kx_2 q_t q_row q_joined q_from q_to q_size q_lossOf q_lessBy q_value q_number nodes here, kx_0 q_row q_cell len, kx_a q_cell cyI 160 f, kx_a q_from cyI 319 ff, kx_a q_to cyI 319 ft, kx_a q_size cyI 319 fs, kx_a q_lossOf cyI 319 fo, kx_a q_lessBy cyI 319 fe, kx_a q_value cyI 1914 uv, kx_a q_number cyI 1914 un, kx_3 q_joined j_v j_n js jl je, kx_a j_v cyI 12 jv, kx_a j_n cyI 12 jn] sz) [kx_4 m_ q_row q_t t_ h0 k0 w_ z_ slots u.1, kx_2 q_t q_row q_joined q_from q_to q_size q_lossOf q_lessBy q_value q_number u.2.1 u.2.2.1, kx_0 q_row q_cell len, kx_a q_cell cyI 160 f, kx_a q_from cyI 319 u.2.2.2.1, kx_a q_to cyI 319 u.2.2.2.2.1, kx_a q_size cyI 319 u.2.2.2.2.2.1, kx_a q_lossOf cyI 319 u.2.2.2.2.2.2.1, kx_a q_lessBy cyI 319 u.2.2.2.2.2.2.2.1, kx_a q_value cyI 1914 u.2.2.2.2.2.2.2.2.1, kx_a q_number cyI 1914 u.2.2.2.2.2.2.2.2.2.1, kx_3 q_joined j_v j_n u.2.2.2.2.2.2.2.2.2.2.1 u.2.2.2.2.2.2.2.2.2.2.2.1 u.2.2.2.2.2.2.2.2.2.2.2.2.1, kx_a j_v cyI 12 u.2.2.2.2.2.2.2.2.2.2.2.2.2.1, kx_a j_n cyI 12 u.2.2.2.2.2.2.2.2.2.2.2.2.2.2]) (va_A [kx_4 m_ q_row q_t t_ h0 k0 w_ z_ slots old, kx_2 q_t q_row q_joined q_from q_to q_size q_lossOf q_lessBy q_value q_number nodes here, kx_0 q_row q_cell len, kx_a q_cell cyI 160 f, kx_a q_from cyI 319 ff, kx_a q_to cyI 319 ft, kx_a q_size cyI 319 fs, kx_a q_lossOf cyI 319 fo, kx_a q_lessBy cyI 319 fe, kx_a q_value cyI 1914 uv, kx_a q_number cyI 1914 un, kx_3 q_joined j_v j_n js jl je, kx_a j_v cyI 12 jv, kx_a j_n cyI 12 jn] sz)) 0 0 (va_A [kx_4 m_ q_row q_t t_ h0 k0 w_ z_ slots old, kx_2 q_t q_row q_joined q_from q_to q_size q_lossOf q_lessBy q_value q_number nodes here, kx_0 q_row q_cell len, kx_a q_cell cyI 160 f, kx_a q_from cyI 319 ff, kx_a q_to cyI 319 ft, kx_a q_size cyI 319 fs, kx_a q_lossOf cyI 319 fo, kx_a q_lessBy cyI 319 fe, kx_a q_value cyI 1914 uv, kx_a q_number cyI 1914 un, kx_3 q_joined j_v j_n js jl je, kx_a j_v cyI 12 jv, kx_a j_n cyI 12 jn] sz) := by
  refine Met.ofW (cc := cX4_node) (maxL := 5) (ret := (some .int)) (by decide) rfl ?_
  intro p e s m args below meth c s₁ B hml hv
  obtain ⟨rfl, hsz, hP, hK, hD0⟩ := hv
  have hx := B.exec
  have hb := B.bytes
  have hr := B.returns
  have hts := atoms_spec (ws := wsX4_node) B.pre
  have hown : s.vm.findClass RX4 = some m.cls := findClass_of_methodNamed B.named
  have hlocks := B.notSynchronized
  subst hsz
  have hD := hD0.self (sz := s.heap.size)
  generalize hAe : va_A [kx_4 m_ q_row q_t t_ h0 k0 w_ z_ slots old, kx_2 q_t q_row q_joined q_from q_to q_size q_lossOf q_lessBy q_value q_number nodes here, kx_0 q_row q_cell len, kx_a q_cell cyI 160 f, kx_a q_from cyI 319 ff, kx_a q_to cyI 319 ft, kx_a q_size cyI 319 fs, kx_a q_lossOf cyI 319 fo, kx_a q_lessBy cyI 319 fe, kx_a q_value cyI 1914 uv, kx_a q_number cyI 1914 un, kx_3 q_joined j_v j_n js jl je, kx_a j_v cyI 12 jv, kx_a j_n cyI 12 jn] s.heap.size = A at hD ⊢
  have hA : ∀ q : Nat, s.heap.size ≤ q → A q := fun q h => by rw [← hAe]; exact Or.inr h
  have hS : va_S A s.heap s.heap [] := va_S.rf
  have hP : va_P (dC, dI) vwCl [kx_4 m_ q_row q_t t_ h0 k0 w_ z_ slots old, kx_2 q_t q_row q_joined q_from q_to q_size q_lossOf q_lessBy q_value q_number nodes here, kx_0 q_row q_cell len, kx_a q_cell cyI 160 f, kx_a q_from cyI 319 ff, kx_a q_to cyI 319 ft, kx_a q_size cyI 319 fs, kx_a q_lossOf cyI 319 fo, kx_a q_lessBy cyI 319 fe, kx_a q_value cyI 1914 uv, kx_a q_number cyI 1914 un, kx_3 q_joined j_v j_n js jl je, kx_a j_v cyI 12 jv, kx_a j_n cyI 12 jn] s.heap := hP
  have hl := lv_entry ([.ref m_, .int p0, .int p1]) (n := 5) (Nat.le_of_ble_eq_true rfl)
  rw [lg_entry_eq]
  generalize (lg_sl ([.ref m_, .int p0, .int p1]) ++ List.replicate (5 - (lg_sl ([.ref m_, .int p0, .int p1])).length) Slot.unset).toArray = ls at hl ⊢
  have hl : lv_has ls 5 [(0, .ref m_), (1, .int p0), (2, .int p1)] := hl
  have hf_12 := hts (.fieldLink RX4 12 "MajorityIndex" "row" "LMajorityIndex$Row;") (List.mem_of_getElem? (i := 1) rfl)
  have hi_4 : ∀ w ∈ u_ws RX4 TX4 9, w ∈ wsX4_node := fun w h => List.mem_cons_of_mem _ (List.mem_append_left _ (List.mem_append_left _ (List.mem_append_left _ (List.mem_append_right _ h))))
  have hf_126 := hts (.fieldLink RX4 126 "MajorityIndex$Tree" "size" "[I") (List.mem_of_getElem? (i := 2) rfl)
  have hi_2 : ∀ w ∈ u_ws RX2 TX2 11, w ∈ wsX4_node := fun w h => List.mem_cons_of_mem _ (List.mem_append_left _ (List.mem_append_left _ (List.mem_append_right _ h)))
  refine lv_aload_n hx hb dX4_node_0 rfl (lv_at hl 0 rfl) ?_
  refine va_get (D := (dC, dI)) (ci := 4) (v := .ref q_row) (C := RX4) (T := TX4) (N := 9) hx hb hts hi_4 hown hK hP 0 rfl rfl 0 (by decide) hf_12 (fun _ h9 => h9) rfl dX4_node_1 ?_
  refine lv_iload_n hx hb dX4_node_4 rfl (lv_at hl 1 rfl) ?_
  refine lv_iload_n hx hb dX4_node_5 rfl (lv_at hl 2 rfl) ?_
  have hPc := hP.sub (ws' := [kx_0 q_row q_cell len]) [2] rfl
  have hKc := hK.sub (tys' := []) [] rfl
  refine vp_callSi (W.runV (As := [.int p0, .int p1]) (rest := []) ⟨hx, hb, hml, hown, hts⟩ (c_X0_hasRange l dC dI q_row q_cell len p0 p1) (cwV 2 hts gX4_node_X0_hasRange rfl rfl rfl (by decide +kernel) ⟨Nat.le_of_ble_eq_true rfl, Nat.le_of_ble_eq_true rfl⟩) ⟨fun a U g mk q => by obtain ⟨q0, qP, qK⟩ := q; exact ⟨q0, qP, va_K.moved (u := U) (U := U.calling g mk a) (Vm.Alike.refl U.vm) qK⟩, va_recv hKc hPc (ci := 0) (q0 := 0) rfl rfl, fun U hU hW => ⟨rfl, by rw [hU]; exact hPc, va_K.moved hW.alike hKc⟩⟩ rfl rfl hl.1 rfl (lv_room (Nat.le_of_ble_eq_true rfl)) dX4_node_6 ⟨Nat.le_of_ble_eq_true rfl, Nat.le_of_ble_eq_true rfl⟩) (fun r_1 w_1 => ?_)
  rcases w_1 with ⟨rfl, w_1⟩ | ⟨rfl, w_1⟩
  · have w_1 : (0 ≤ p0.toInt ∧ p0.toInt < p1.toInt ∧ p1.toInt ≤ len.toInt) := w_1
    refine lv_if_ne (tgt := 14) hx hb dX4_node_9 (by decide) (fun c_2 => ?_) (fun c_2 => ?_)
    · refine lv_aload_n hx hb dX4_node_14 rfl (lv_at hl 0 rfl) ?_
      have hPc := hP
      have hKc := hK
      have hDc := hD
      have hFc := kx_free hD hS hA
      refine va_callr (va_runV (As := []) (rest := []) ⟨hx, hb, hml, hown, hts⟩ (c_X4_laidTree_x l dC dI m_ q_row q_t t_ h0 k0 w_ z_ slots old q_joined q_from q_to q_size q_lossOf q_lessBy q_value q_number nodes here q_cell cyI len f ff ft fs fo uv un fe j_v j_n js jl je jv jn s.heap.size a0 a1 s0 sl0 sl1 l0) (cwV 0 hts gX4_node_X4_laidTree rfl rfl rfl (by decide +kernel) ⟨Nat.le_of_ble_eq_true rfl, Nat.le_of_ble_eq_true rfl⟩) ⟨fun a U g mk q => by obtain ⟨q0, q1, qP, qK, qD⟩ := q; exact ⟨q0, q1, qP, va_K.moved (u := U) (U := U.calling g mk a) (Vm.Alike.refl U.vm) qK, qD⟩, va_recv hKc hPc (ci := 4) (q0 := 0) rfl rfl, fun U hU hW => ⟨rfl, by rw [hU], by rw [hU]; exact hPc, va_K.moved hW.alike hKc, hDc.weaken (fun _ _ _ _ => trivial)⟩⟩ rfl rfl hl.1 rfl (lv_room (Nat.le_of_ble_eq_true rfl)) dX4_node_15 ⟨Nat.le_of_ble_eq_true rfl, Nat.le_of_ble_eq_true rfl⟩) hS (fun q _ h => hFc q h) hFc (fun u ra t H1 locs ht hvm w_3 hB hz1 hk1 hS => ?_)
      obtain ⟨o_4, o_5, o_6, o_7, o_8, o_9, o_10, o_11, o_12, o_13, o_14, o_15, o_16, o_17, o_18⟩ := u
      dsimp only at w_3 hB
      obtain ⟨er, hP1, hK1, hD1⟩ := hB
      rw [ht] at hP1
      have hK1 := va_K.moved hvm.symm hK1
      have hD := hD1.weaken (fun _ q _ h => hFc q.1 h)
      have hP := hP1
      clear hP1 hD1 hK1 hk1 hz1 hFc hDc hPc hKc
      generalize H1 = H at hP hS ⊢
      have w_3 : o_4.toInt = 0 ∧ o_6 = slots ∧ sixes o_9 ∧ mj_C slots.toNatClampNeg f o_7 o_8 o_9 o_10 o_11 o_12 o_13 o_5.toInt len.toInt ∧ 0 ≤ o_5.toInt ∧ o_5.toInt ≤ 319 ∧ treeOk o_7 o_8 o_5.toInt len.toInt := w_3
      rw [er]
      refine lv_astore_n (lv' := [(3, .ref q_t), (0, .ref m_), (1, .int p0), (2, .int p1)]) hx hb dX4_node_18 rfl hl (by decide) rfl (fun ls hl => ?_)
      refine lv_aload_n hx hb dX4_node_19 rfl (lv_at hl 0 rfl) ?_
      refine lv_iload_n hx hb dX4_node_20 rfl (lv_at hl 2 rfl) ?_
      refine lv_iload_n hx hb dX4_node_21 rfl (lv_at hl 3 rfl) ?_
      have hPc := hP.sub (ws' := [kx_2 q_t q_row q_joined q_from q_to q_size q_lossOf q_lessBy q_value q_number o_5 o_6, kx_a q_from cyI 319 o_7, kx_a q_to cyI 319 o_8]) [1, 4, 5] rfl
      have hKc := hK
      refine vp_callSi (W.runV (As := [.int p0, .int p1]) (rest := []) ⟨hx, hb, hml, hown, hts⟩ (c_X2_find_x l dC dI q_t q_row q_joined q_from q_to q_size q_lossOf q_lessBy q_value q_number o_5 o_6 cyI o_7 o_8 p0 p1 w_3.2.2.2.2.1 w_3.2.2.2.2.2.1) (cwV 2 hts gX4_node_X2_find rfl rfl rfl (by decide +kernel) ⟨Nat.le_of_ble_eq_true rfl, Nat.le_of_ble_eq_true rfl⟩) ⟨fun a U g mk q => by obtain ⟨q0, qP, qK⟩ := q; exact ⟨q0, qP, va_K.moved (u := U) (U := U.calling g mk a) (Vm.Alike.refl U.vm) qK⟩, va_recv hKc hPc (ci := 2) (q0 := 0) rfl rfl, fun U hU hW => ⟨rfl, by rw [hU]; exact hPc, va_K.moved hW.alike hKc⟩⟩ rfl rfl hl.1 rfl (lv_room (Nat.le_of_ble_eq_true rfl)) dX4_node_22 ⟨Nat.le_of_ble_eq_true rfl, Nat.le_of_ble_eq_true rfl⟩) (fun r_19 w_19 => ?_)
      have w_19 : mj_first (fun k => (o_7 k).toInt = p0.toInt ∧ (o_8 k).toInt = p1.toInt) 0 o_5.toNatClampNeg (-1) r_19.toInt ∧ (r_19.toInt = -1 ∨ (0 ≤ r_19.toInt ∧ r_19.toInt < o_5.toInt)) := w_19
      refine lv_istore (lv' := [(4, .int r_19), (3, .ref q_t), (0, .ref m_), (1, .int p0), (2, .int p1)]) hx hb dX4_node_25 hl (by decide) rfl (fun ls hl => ?_)
      refine lv_iload hx hb dX4_node_27 (lv_at hl 0 rfl) ?_
      refine lv_iconst (v := (-1)) hx hb dX4_node_29 (by decide) ?_
      refine lv_icmp_ne (tgt := 38) hx hb dX4_node_30 (by decide) (fun c_20 => ?_) (fun c_20 => ?_)
      · have i_20 : ¬ r_19.toInt = (-1) := kc_ne c_20
        refine lv_aload_n hx hb dX4_node_38 rfl (lv_at hl 1 rfl) ?_
        refine va_get (D := (dC, dI)) (ci := 2) (v := .ref q_size) (C := RX2) (T := TX2) (N := 11) hx hb hts hi_2 hown hK hP 1 rfl rfl 4 (by decide) hf_126 (fun _ h9 => h9) rfl dX4_node_39 ?_
        refine lv_iload hx hb dX4_node_42 (lv_at hl 0 rfl) ?_
        refine va_iald hx hb hK hP 6 0 rfl rfl (ki_in (by omega) (by omega)) dX4_node_44 ?_
        refine lv_topi (fun y_21 ey_21 => ?_)
        have j_21 : y_21.toInt = (o_9 r_19.toNatClampNeg).toInt := congrArg Int32.toInt ey_21
        have hP9 := hP
        have hD9 := hD
        have hK9 := hK
        have n_nd := ki_nat o_5 rfl (by omega)
        exact W.iret (v := y_21) hx hb hr (fun t ht hW => ⟨⟨y_21, (o_4, o_5, o_6, o_7, o_8, o_9, o_10, o_11, o_12, o_13, o_14, o_15, o_16, o_17, o_18), rfl, ⟨Or.inl ⟨(by (try dsimp only); omega), w_3.1, mj_ask_yes w_19.1 n_nd (by omega) ey_21⟩, (fun _ => ⟨w_3.2.1, w_3.2.2.2.1⟩), w_3.2.2.1⟩, by rw [ht]; exact hP9, va_K.moved hW.alike hK9, hD9⟩, hS.F ht⟩) hS.2.2 dX4_node_45
      · have i_20 : r_19.toInt = (-1) := kc_eq c_20
        refine lv_bipush (v := (-2)) hx hb dX4_node_33 (by decide) ?_
        refine lv_goto (tgt := 45) hx hb dX4_node_35 (by decide) ?_
        have hP9 := hP
        have hD9 := hD
        have hK9 := hK
        have n_nd := ki_nat o_5 rfl (by omega)
        exact W.iret (v := (-2)) hx hb hr (fun t ht hW => ⟨⟨(-2), (o_4, o_5, o_6, o_7, o_8, o_9, o_10, o_11, o_12, o_13, o_14, o_15, o_16, o_17, o_18), rfl, ⟨Or.inl ⟨(by (try dsimp only); omega), w_3.1, mj_ask_no w_19.1 n_nd (by omega) (by omega)⟩, (fun _ => ⟨w_3.2.1, w_3.2.2.2.1⟩), w_3.2.2.1⟩, by rw [ht]; exact hP9, va_K.moved hW.alike hK9, hD9⟩, hS.F ht⟩) hS.2.2 dX4_node_45
    · exact absurd c_2 (by decide)
  · have w_1 : (p0.toInt < 0 ∨ p1.toInt ≤ p0.toInt ∨ len.toInt < p1.toInt) := w_1
    refine lv_if_ne (tgt := 14) hx hb dX4_node_9 (by decide) (fun c_22 => ?_) (fun c_22 => ?_)
    · exact absurd c_22 (by decide)
    · refine lv_iconst (v := (-1)) hx hb dX4_node_12 (by decide) ?_
      have hP9 := hP
      have hD9 := hD
      have hK9 := hK
      exact W.iret (v := (-1)) hx hb hr (fun t ht hW => ⟨⟨(-1), (old, nodes, here, ff, ft, fs, fo, fe, uv, un, js, jl, je, jv, jn), rfl, ⟨Or.inr ⟨(by (try dsimp only); omega), rfl⟩, l0, s0⟩, by rw [ht]; exact hP9, va_K.moved hW.alike hK9, hD9⟩, hS.F ht⟩) hS.2.2 dX4_node_13

set_option maxHeartbeats 4000000 in
set_option maxRecDepth 100000 in
theorem c_X4_loss_x (l : Launch) (dC : Nat → ClassId) (dI : Nat → Nat → Nat) (m_ : Nat) (q_row : Nat) (q_t : Nat) (t_ : Nat) (h0 : Nat) (k0 : Nat) (w_ : Nat) (z_ : Nat) (slots : Int32) (old : Int32) (q_joined : Nat) (q_from : Nat) (q_to : Nat) (q_size : Nat) (q_lossOf : Nat) (q_lessBy : Nat) (q_value : Nat) (q_number : Nat) (nodes : Int32) (here : Int32) (q_cell : Nat) (cyI : ClassId) (len : Int32) (f : Nat → Int32) (ff : Nat → Int32) (ft : Nat → Int32) (fs : Nat → Int32) (fo : Nat → Int32) (uv : Nat → Int32) (un : Nat → Int32) (fe : Nat → Int32) (j_v : Nat) (j_n : Nat) (js : Int32) (jl : Int32) (je : Int32) (jv : Nat → Int32) (jn : Nat → Int32) (p0 : Int32) (p1 : Int32) (sz : Nat) (a0 : 0 ≤ len.toInt) (a1 : len.toInt ≤ 160) (s0 : sixes fs) (sl0 : 1 ≤ slots.toInt) (sl1 : slots.toInt ≤ 6) (l0 : laidX old slots here f ff ft fs fo fe uv un nodes len) : Met l yX4_loss wsX4_loss ({ frames := 6, cells := 0, slots := 0, locals := 270 }) (va_Pc [.ref m_, .int p0, .int p1] (fun U => U.heap.size = sz ∧ va_P (dC, dI) vwCl [kx_4 m_ q_row q_t t_ h0 k0 w_ z_ slots old, kx_2 q_t q_row q_joined q_from q_to q_size q_lossOf q_lessBy q_value q_number nodes here, kx_0 q_row q_cell len, kx_a q_cell cyI 160 f, kx_a q_from cyI 319 ff, kx_a q_to cyI 319 ft, kx_a q_size cyI 319 fs, kx_a q_lossOf cyI 319 fo, kx_a q_lessBy cyI 319 fe, kx_a q_value cyI 1914 uv, kx_a q_number cyI 1914 un, kx_3 q_joined j_v j_n js jl je, kx_a j_v cyI 12 jv, kx_a j_n cyI 12 jn] U.heap ∧ va_K (dC, dI) vwCl [(cyI, .int)] U ∧ va_D (fun _ => True) [kx_4 m_ q_row q_t t_ h0 k0 w_ z_ slots old, kx_2 q_t q_row q_joined q_from q_to q_size q_lossOf q_lessBy q_value q_number nodes here, kx_0 q_row q_cell len, kx_a q_cell cyI 160 f, kx_a q_from cyI 319 ff, kx_a q_to cyI 319 ft, kx_a q_size cyI 319 fs, kx_a q_lossOf cyI 319 fo, kx_a q_lessBy cyI 319 fe, kx_a q_value cyI 1914 uv, kx_a q_number cyI 1914 un, kx_3 q_joined j_v j_n js jl je, kx_a j_v cyI 12 jv, kx_a j_n cyI 12 jn])) (va_Qi (fun (r : Int32) (u : Int32 × Int32 × Int32 × (Nat → Int32) × (Nat → Int32) × (Nat → Int32) × (Nat → Int32) × (Nat → Int32) × (Nat → Int32) × (Nat → Int32) × Int32 × Int32 × Int32 × (Nat → Int32) × (Nat → Int32)) => (((0 ≤ p0.toInt ∧ p0.toInt < p1.toInt ∧ p1.toInt ≤ len.toInt) ∧ u.1.toInt = 0 ∧ mj_ask u.2.2.2.1 u.2.2.2.2.1 u.2.2.2.2.2.2.1 u.2.1.toInt p0.toInt p1.toInt r) ∨ ((p0.toInt < 0 ∨ p1.toInt ≤ p0.toInt ∨ len.toInt < p1.toInt) ∧ r = -1)) ∧ laidX u.1 slots u.2.2.1 f u.2.2.2.1 u.2.2.2.2.1 u.2.2.2.2.2.1 u.2.2.2.2.2.2.1 u.2.2.2.2.2.2.2.1 u.2.2.2.2.2.2.2.2.1 u.2.2.2.2.2.2.2.2.2.1 u.2.1 len ∧ sixes u.2.2.2.2.2.1) (fun (u : Int32 × Int32 × Int32 × (Nat → Int32) × (Nat → Int32) × (Nat → Int32) × (Nat → Int32) × (Nat → Int32) × (Nat → Int32) × (Nat → Int32) × Int32 × Int32 × Int32 × (Nat → Int32) × (Nat → Int32)) (t : State) => va_P (dC, dI) vwCl [kx_4 m_ q_row q_t t_ h0 k0 w_ z_ slots u.1, kx_2 q_t q_row q_joined q_from q_to q_size q_lossOf q_lessBy q_value q_number u.2.1 u.2.2.1, kx_0 q_row q_cell len, kx_a q_cell cyI 160 f, kx_a q_from cyI 319 u.2.2.2.1, kx_a q_to cyI 319 u.2.2.2.2.1, kx_a q_size cyI 319 u.2.2.2.2.2.1, kx_a q_lossOf cyI 319 u.2.2.2.2.2.2.1, kx_a q_lessBy cyI 319 u.2.2.2.2.2.2.2.1, kx_a q_value cyI 1914 u.2.2.2.2.2.2.2.2.1, kx_a q_number cyI 1914 u.2.2.2.2.2.2.2.2.2.1, kx_3 q_joined j_v j_n u.2.2.2.2.2.2.2.2.2.2.1 u.2.2.2.2.2.2.2.2.2.2.2.1 u.2.2.2.2.2.2.2.2.2.2.2.2.1, kx_a j_v cyI 12 u.2.2.2.2.2.2.2.2.2.2.2.2.2.1, kx_a j_n cyI 12 u.2.2.2.2.2.2.2.2.2.2.2.2.2.2] t.heap ∧ va_K (dC, dI) vwCl [(cyI, .int)] t ∧ va_D (va_A [kx_4 m_ q_row q_t t_ h0 k0 w_ z_ slots old, kx_2 q_t q_row q_joined q_from q_to q_size q_lossOf q_lessBy q_value q_number nodes here, kx_0 q_row q_cell len, kx_a q_cell cyI 160 f, kx_a q_from cyI 319 ff, kx_a q_to cyI 319 ft, kx_a q_size cyI 319 fs, kx_a q_lossOf cyI 319 fo, kx_a q_lessBy cyI 319 fe, kx_a q_value cyI 1914 uv, kx_a q_number cyI 1914 un, kx_3 q_joined j_v j_n js jl je, kx_a j_v cyI 12 jv, kx_a j_n cyI 12 jn] sz) [kx_4 m_ q_row q_t t_ h0 k0 w_ z_ slots u.1, kx_2 q_t q_row q_joined q_from q_to q_size q_lossOf q_lessBy q_value q_number u.2.1 u.2.2.1, kx_0 q_row q_cell len, kx_a q_cell cyI 160 f, kx_a q_from cyI 319 u.2.2.2.1, kx_a q_to cyI 319 u.2.2.2.2.1, kx_a q_size cyI 319 u.2.2.2.2.2.1, kx_a q_lossOf cyI 319 u.2.2.2.2.2.2.1, kx_a q_lessBy cyI 319 u.2.2.2.2.2.2.2.1, kx_a q_value cyI 1914 u.2.2.2.2.2.2.2.2.1, kx_a q_number cyI 1914 u.2.2.2.2.2.2.2.2.2.1, kx_3 q_joined j_v j_n u.2.2.2.2.2.2.2.2.2.2.1 u.2.2.2.2.2.2.2.2.2.2.2.1 u.2.2.2.2.2.2.2.2.2.2.2.2.1, kx_a j_v cyI 12 u.2.2.2.2.2.2.2.2.2.2.2.2.2.1, kx_a j_n cyI 12 u.2.2.2.2.2.2.2.2.2.2.2.2.2.2]) (va_A [kx_4 m_ q_row q_t t_ h0 k0 w_ z_ slots old, kx_2 q_t q_row q_joined q_from q_to q_size q_lossOf q_lessBy q_value q_number nodes here, kx_0 q_row q_cell len, kx_a q_cell cyI 160 f, kx_a q_from cyI 319 ff, kx_a q_to cyI 319 ft, kx_a q_size cyI 319 fs, kx_a q_lossOf cyI 319 fo, kx_a q_lessBy cyI 319 fe, kx_a q_value cyI 1914 uv, kx_a q_number cyI 1914 un, kx_3 q_joined j_v j_n js jl je, kx_a j_v cyI 12 jv, kx_a j_n cyI 12 jn] sz)) 0 0 (va_A [kx_4 m_ q_row q_t t_ h0 k0 w_ z_ slots old, kx_2 q_t q_row q_joined q_from q_to q_size q_lossOf q_lessBy q_value q_number nodes here, kx_0 q_row q_cell len, kx_a q_cell cyI 160 f, kx_a q_from cyI 319 ff, kx_a q_to cyI 319 ft, kx_a q_size cyI 319 fs, kx_a q_lossOf cyI 319 fo, kx_a q_lessBy cyI 319 fe, kx_a q_value cyI 1914 uv, kx_a q_number cyI 1914 un, kx_3 q_joined j_v j_n js jl je, kx_a j_v cyI 12 jv, kx_a j_n cyI 12 jn] sz) := by
  refine Met.ofW (cc := cX4_loss) (maxL := 5) (ret := (some .int)) (by decide) rfl ?_
  intro p e s m args below meth c s₁ B hml hv
  obtain ⟨rfl, hsz, hP, hK, hD0⟩ := hv
  have hx := B.exec
  have hb := B.bytes
  have hr := B.returns
  have hts := atoms_spec (ws := wsX4_loss) B.pre
  have hown : s.vm.findClass RX4 = some m.cls := findClass_of_methodNamed B.named
  have hlocks := B.notSynchronized
  subst hsz
  have hD := hD0.self (sz := s.heap.size)
  generalize hAe : va_A [kx_4 m_ q_row q_t t_ h0 k0 w_ z_ slots old, kx_2 q_t q_row q_joined q_from q_to q_size q_lossOf q_lessBy q_value q_number nodes here, kx_0 q_row q_cell len, kx_a q_cell cyI 160 f, kx_a q_from cyI 319 ff, kx_a q_to cyI 319 ft, kx_a q_size cyI 319 fs, kx_a q_lossOf cyI 319 fo, kx_a q_lessBy cyI 319 fe, kx_a q_value cyI 1914 uv, kx_a q_number cyI 1914 un, kx_3 q_joined j_v j_n js jl je, kx_a j_v cyI 12 jv, kx_a j_n cyI 12 jn] s.heap.size = A at hD ⊢
  have hA : ∀ q : Nat, s.heap.size ≤ q → A q := fun q h => by rw [← hAe]; exact Or.inr h
  have hS : va_S A s.heap s.heap [] := va_S.rf
  have hP : va_P (dC, dI) vwCl [kx_4 m_ q_row q_t t_ h0 k0 w_ z_ slots old, kx_2 q_t q_row q_joined q_from q_to q_size q_lossOf q_lessBy q_value q_number nodes here, kx_0 q_row q_cell len, kx_a q_cell cyI 160 f, kx_a q_from cyI 319 ff, kx_a q_to cyI 319 ft, kx_a q_size cyI 319 fs, kx_a q_lossOf cyI 319 fo, kx_a q_lessBy cyI 319 fe, kx_a q_value cyI 1914 uv, kx_a q_number cyI 1914 un, kx_3 q_joined j_v j_n js jl je, kx_a j_v cyI 12 jv, kx_a j_n cyI 12 jn] s.heap := hP
  have hl := lv_entry ([.ref m_, .int p0, .int p1]) (n := 5) (Nat.le_of_ble_eq_true rfl)
  rw [lg_entry_eq]
  generalize (lg_sl ([.ref m_, .int p0, .int p1]) ++ List.replicate (5 - (lg_sl ([.ref m_, .int p0, .int p1])).length) Slot.unset).toArray = ls at hl ⊢
  have hl : lv_has ls 5 [(0, .ref m_), (1, .int p0), (2, .int p1)] := hl
  have hf_12 := hts (.fieldLink RX4 12 "MajorityIndex" "row" "LMajorityIndex$Row;") (List.mem_of_getElem? (i := 1) rfl)
  have hi_4 : ∀ w ∈ u_ws RX4 TX4 9, w ∈ wsX4_loss := fun w h => List.mem_cons_of_mem _ (List.mem_append_left _ (List.mem_append_left _ (List.mem_append_left _ (List.mem_append_right _ h))))
  have hf_139 := hts (.fieldLink RX4 139 "MajorityIndex$Tree" "lossOf" "[I") (List.mem_of_getElem? (i := 2) rfl)
  have hi_2 : ∀ w ∈ u_ws RX2 TX2 11, w ∈ wsX4_loss := fun w h => List.mem_cons_of_mem _ (List.mem_append_left _ (List.mem_append_left _ (List.mem_append_right _ h)))
  refine lv_aload_n hx hb dX4_loss_0 rfl (lv_at hl 0 rfl) ?_
  refine va_get (D := (dC, dI)) (ci := 4) (v := .ref q_row) (C := RX4) (T := TX4) (N := 9) hx hb hts hi_4 hown hK hP 0 rfl rfl 0 (by decide) hf_12 (fun _ h9 => h9) rfl dX4_loss_1 ?_
  refine lv_iload_n hx hb dX4_loss_4 rfl (lv_at hl 1 rfl) ?_
  refine lv_iload_n hx hb dX4_loss_5 rfl (lv_at hl 2 rfl) ?_
  have hPc := hP.sub (ws' := [kx_0 q_row q_cell len]) [2] rfl
  have hKc := hK.sub (tys' := []) [] rfl
  refine vp_callSi (W.runV (As := [.int p0, .int p1]) (rest := []) ⟨hx, hb, hml, hown, hts⟩ (c_X0_hasRange l dC dI q_row q_cell len p0 p1) (cwV 2 hts gX4_loss_X0_hasRange rfl rfl rfl (by decide +kernel) ⟨Nat.le_of_ble_eq_true rfl, Nat.le_of_ble_eq_true rfl⟩) ⟨fun a U g mk q => by obtain ⟨q0, qP, qK⟩ := q; exact ⟨q0, qP, va_K.moved (u := U) (U := U.calling g mk a) (Vm.Alike.refl U.vm) qK⟩, va_recv hKc hPc (ci := 0) (q0 := 0) rfl rfl, fun U hU hW => ⟨rfl, by rw [hU]; exact hPc, va_K.moved hW.alike hKc⟩⟩ rfl rfl hl.1 rfl (lv_room (Nat.le_of_ble_eq_true rfl)) dX4_loss_6 ⟨Nat.le_of_ble_eq_true rfl, Nat.le_of_ble_eq_true rfl⟩) (fun r_1 w_1 => ?_)
  rcases w_1 with ⟨rfl, w_1⟩ | ⟨rfl, w_1⟩
  · have w_1 : (0 ≤ p0.toInt ∧ p0.toInt < p1.toInt ∧ p1.toInt ≤ len.toInt) := w_1
    refine lv_if_ne (tgt := 14) hx hb dX4_loss_9 (by decide) (fun c_2 => ?_) (fun c_2 => ?_)
    · refine lv_aload_n hx hb dX4_loss_14 rfl (lv_at hl 0 rfl) ?_
      have hPc := hP
      have hKc := hK
      have hDc := hD
      have hFc := kx_free hD hS hA
      refine va_callr (va_runV (As := []) (rest := []) ⟨hx, hb, hml, hown, hts⟩ (c_X4_laidTree_x l dC dI m_ q_row q_t t_ h0 k0 w_ z_ slots old q_joined q_from q_to q_size q_lossOf q_lessBy q_value q_number nodes here q_cell cyI len f ff ft fs fo uv un fe j_v j_n js jl je jv jn s.heap.size a0 a1 s0 sl0 sl1 l0) (cwV 0 hts gX4_loss_X4_laidTree rfl rfl rfl (by decide +kernel) ⟨Nat.le_of_ble_eq_true rfl, Nat.le_of_ble_eq_true rfl⟩) ⟨fun a U g mk q => by obtain ⟨q0, q1, qP, qK, qD⟩ := q; exact ⟨q0, q1, qP, va_K.moved (u := U) (U := U.calling g mk a) (Vm.Alike.refl U.vm) qK, qD⟩, va_recv hKc hPc (ci := 4) (q0 := 0) rfl rfl, fun U hU hW => ⟨rfl, by rw [hU], by rw [hU]; exact hPc, va_K.moved hW.alike hKc, hDc.weaken (fun _ _ _ _ => trivial)⟩⟩ rfl rfl hl.1 rfl (lv_room (Nat.le_of_ble_eq_true rfl)) dX4_loss_15 ⟨Nat.le_of_ble_eq_true rfl, Nat.le_of_ble_eq_true rfl⟩) hS (fun q _ h => hFc q h) hFc (fun u ra t H1 locs ht hvm w_3 hB hz1 hk1 hS => ?_)
      obtain ⟨o_4, o_5, o_6, o_7, o_8, o_9, o_10, o_11, o_12, o_13, o_14, o_15, o_16, o_17, o_18⟩ := u
      dsimp only at w_3 hB
      obtain ⟨er, hP1, hK1, hD1⟩ := hB
      rw [ht] at hP1
      have hK1 := va_K.moved hvm.symm hK1
      have hD := hD1.weaken (fun _ q _ h => hFc q.1 h)
      have hP := hP1
      clear hP1 hD1 hK1 hk1 hz1 hFc hDc hPc hKc
      generalize H1 = H at hP hS ⊢
      have w_3 : o_4.toInt = 0 ∧ o_6 = slots ∧ sixes o_9 ∧ mj_C slots.toNatClampNeg f o_7 o_8 o_9 o_10 o_11 o_12 o_13 o_5.toInt len.toInt ∧ 0 ≤ o_5.toInt ∧ o_5.toInt ≤ 319 ∧ treeOk o_7 o_8 o_5.toInt len.toInt := w_3
      rw [er]
      refine lv_astore_n (lv' := [(3, .ref q_t), (0, .ref m_), (1, .int p0), (2, .int p1)]) hx hb dX4_loss_18 rfl hl (by decide) rfl (fun ls hl => ?_)
      refine lv_aload_n hx hb dX4_loss_19 rfl (lv_at hl 0 rfl) ?_
      refine lv_iload_n hx hb dX4_loss_20 rfl (lv_at hl 2 rfl) ?_
      refine lv_iload_n hx hb dX4_loss_21 rfl (lv_at hl 3 rfl) ?_
      have hPc := hP.sub (ws' := [kx_2 q_t q_row q_joined q_from q_to q_size q_lossOf q_lessBy q_value q_number o_5 o_6, kx_a q_from cyI 319 o_7, kx_a q_to cyI 319 o_8]) [1, 4, 5] rfl
      have hKc := hK
      refine vp_callSi (W.runV (As := [.int p0, .int p1]) (rest := []) ⟨hx, hb, hml, hown, hts⟩ (c_X2_find_x l dC dI q_t q_row q_joined q_from q_to q_size q_lossOf q_lessBy q_value q_number o_5 o_6 cyI o_7 o_8 p0 p1 w_3.2.2.2.2.1 w_3.2.2.2.2.2.1) (cwV 2 hts gX4_loss_X2_find rfl rfl rfl (by decide +kernel) ⟨Nat.le_of_ble_eq_true rfl, Nat.le_of_ble_eq_true rfl⟩) ⟨fun a U g mk q => by obtain ⟨q0, qP, qK⟩ := q; exact ⟨q0, qP, va_K.moved (u := U) (U := U.calling g mk a) (Vm.Alike.refl U.vm) qK⟩, va_recv hKc hPc (ci := 2) (q0 := 0) rfl rfl, fun U hU hW => ⟨rfl, by rw [hU]; exact hPc, va_K.moved hW.alike hKc⟩⟩ rfl rfl hl.1 rfl (lv_room (Nat.le_of_ble_eq_true rfl)) dX4_loss_22 ⟨Nat.le_of_ble_eq_true rfl, Nat.le_of_ble_eq_true rfl⟩) (fun r_19 w_19 => ?_)
      have w_19 : mj_first (fun k => (o_7 k).toInt = p0.toInt ∧ (o_8 k).toInt = p1.toInt) 0 o_5.toNatClampNeg (-1) r_19.toInt ∧ (r_19.toInt = -1 ∨ (0 ≤ r_19.toInt ∧ r_19.toInt < o_5.toInt)) := w_19
      refine lv_istore (lv' := [(4, .int r_19), (3, .ref q_t), (0, .ref m_), (1, .int p0), (2, .int p1)]) hx hb dX4_loss_25 hl (by decide) rfl (fun ls hl => ?_)
      refine lv_iload hx hb dX4_loss_27 (lv_at hl 0 rfl) ?_
      refine lv_iconst (v := (-1)) hx hb dX4_loss_29 (by decide) ?_
      refine lv_icmp_ne (tgt := 38) hx hb dX4_loss_30 (by decide) (fun c_20 => ?_) (fun c_20 => ?_)
      · have i_20 : ¬ r_19.toInt = (-1) := kc_ne c_20
        refine lv_aload_n hx hb dX4_loss_38 rfl (lv_at hl 1 rfl) ?_
        refine va_get (D := (dC, dI)) (ci := 2) (v := .ref q_lossOf) (C := RX2) (T := TX2) (N := 11) hx hb hts hi_2 hown hK hP 1 rfl rfl 5 (by decide) hf_139 (fun _ h9 => h9) rfl dX4_loss_39 ?_
        refine lv_iload hx hb dX4_loss_42 (lv_at hl 0 rfl) ?_
        refine va_iald hx hb hK hP 7 0 rfl rfl (ki_in (by omega) (by omega)) dX4_loss_44 ?_
        refine lv_topi (fun y_21 ey_21 => ?_)
        have j_21 : y_21.toInt = (o_10 r_19.toNatClampNeg).toInt := congrArg Int32.toInt ey_21
        have hP9 := hP
        have hD9 := hD
        have hK9 := hK
        have n_nd := ki_nat o_5 rfl (by omega)
        exact W.iret (v := y_21) hx hb hr (fun t ht hW => ⟨⟨y_21, (o_4, o_5, o_6, o_7, o_8, o_9, o_10, o_11, o_12, o_13, o_14, o_15, o_16, o_17, o_18), rfl, ⟨Or.inl ⟨(by (try dsimp only); omega), w_3.1, mj_ask_yes w_19.1 n_nd (by omega) ey_21⟩, (fun _ => ⟨w_3.2.1, w_3.2.2.2.1⟩), w_3.2.2.1⟩, by rw [ht]; exact hP9, va_K.moved hW.alike hK9, hD9⟩, hS.F ht⟩) hS.2.2 dX4_loss_45
      · have i_20 : r_19.toInt = (-1) := kc_eq c_20
        refine lv_bipush (v := (-2)) hx hb dX4_loss_33 (by decide) ?_
        refine lv_goto (tgt := 45) hx hb dX4_loss_35 (by decide) ?_
        have hP9 := hP
        have hD9 := hD
        have hK9 := hK
        have n_nd := ki_nat o_5 rfl (by omega)
        exact W.iret (v := (-2)) hx hb hr (fun t ht hW => ⟨⟨(-2), (o_4, o_5, o_6, o_7, o_8, o_9, o_10, o_11, o_12, o_13, o_14, o_15, o_16, o_17, o_18), rfl, ⟨Or.inl ⟨(by (try dsimp only); omega), w_3.1, mj_ask_no w_19.1 n_nd (by omega) (by omega)⟩, (fun _ => ⟨w_3.2.1, w_3.2.2.2.1⟩), w_3.2.2.1⟩, by rw [ht]; exact hP9, va_K.moved hW.alike hK9, hD9⟩, hS.F ht⟩) hS.2.2 dX4_loss_45
    · exact absurd c_2 (by decide)
  · have w_1 : (p0.toInt < 0 ∨ p1.toInt ≤ p0.toInt ∨ len.toInt < p1.toInt) := w_1
    refine lv_if_ne (tgt := 14) hx hb dX4_loss_9 (by decide) (fun c_22 => ?_) (fun c_22 => ?_)
    · exact absurd c_22 (by decide)
    · refine lv_iconst (v := (-1)) hx hb dX4_loss_12 (by decide) ?_
      have hP9 := hP
      have hD9 := hD
      have hK9 := hK
      exact W.iret (v := (-1)) hx hb hr (fun t ht hW => ⟨⟨(-1), (old, nodes, here, ff, ft, fs, fo, fe, uv, un, js, jl, je, jv, jn), rfl, ⟨Or.inr ⟨(by (try dsimp only); omega), rfl⟩, l0, s0⟩, by rw [ht]; exact hP9, va_K.moved hW.alike hK9, hD9⟩, hS.F ht⟩) hS.2.2 dX4_loss_13

set_option maxHeartbeats 4000000 in
set_option maxRecDepth 100000 in
theorem c_X4_cancelled_x (l : Launch) (dC : Nat → ClassId) (dI : Nat → Nat → Nat) (m_ : Nat) (q_row : Nat) (q_t : Nat) (t_ : Nat) (h0 : Nat) (k0 : Nat) (w_ : Nat) (z_ : Nat) (slots : Int32) (old : Int32) (q_joined : Nat) (q_from : Nat) (q_to : Nat) (q_size : Nat) (q_lossOf : Nat) (q_lessBy : Nat) (q_value : Nat) (q_number : Nat) (nodes : Int32) (here : Int32) (q_cell : Nat) (cyI : ClassId) (len : Int32) (f : Nat → Int32) (ff : Nat → Int32) (ft : Nat → Int32) (fs : Nat → Int32) (fo : Nat → Int32) (uv : Nat → Int32) (un : Nat → Int32) (fe : Nat → Int32) (j_v : Nat) (j_n : Nat) (js : Int32) (jl : Int32) (je : Int32) (jv : Nat → Int32) (jn : Nat → Int32) (p0 : Int32) (p1 : Int32) (sz : Nat) (a0 : 0 ≤ len.toInt) (a1 : len.toInt ≤ 160) (s0 : sixes fs) (sl0 : 1 ≤ slots.toInt) (sl1 : slots.toInt ≤ 6) (l0 : laidX old slots here f ff ft fs fo fe uv un nodes len) : Met l yX4_cancelled wsX4_cancelled ({ frames := 6, cells := 0, slots := 0, locals := 270 }) (va_Pc [.ref m_, .int p0, .int p1] (fun U => U.heap.size = sz ∧ va_P (dC, dI) vwCl [kx_4 m_ q_row q_t t_ h0 k0 w_ z_ slots old, kx_2 q_t q_row q_joined q_from q_to q_size q_lossOf q_lessBy q_value q_number nodes here, kx_0 q_row q_cell len, kx_a q_cell cyI 160 f, kx_a q_from cyI 319 ff, kx_a q_to cyI 319 ft, kx_a q_size cyI 319 fs, kx_a q_lossOf cyI 319 fo, kx_a q_lessBy cyI 319 fe, kx_a q_value cyI 1914 uv, kx_a q_number cyI 1914 un, kx_3 q_joined j_v j_n js jl je, kx_a j_v cyI 12 jv, kx_a j_n cyI 12 jn] U.heap ∧ va_K (dC, dI) vwCl [(cyI, .int)] U ∧ va_D (fun _ => True) [kx_4 m_ q_row q_t t_ h0 k0 w_ z_ slots old, kx_2 q_t q_row q_joined q_from q_to q_size q_lossOf q_lessBy q_value q_number nodes here, kx_0 q_row q_cell len, kx_a q_cell cyI 160 f, kx_a q_from cyI 319 ff, kx_a q_to cyI 319 ft, kx_a q_size cyI 319 fs, kx_a q_lossOf cyI 319 fo, kx_a q_lessBy cyI 319 fe, kx_a q_value cyI 1914 uv, kx_a q_number cyI 1914 un, kx_3 q_joined j_v j_n js jl je, kx_a j_v cyI 12 jv, kx_a j_n cyI 12 jn])) (va_Qi (fun (r : Int32) (u : Int32 × Int32 × Int32 × (Nat → Int32) × (Nat → Int32) × (Nat → Int32) × (Nat → Int32) × (Nat → Int32) × (Nat → Int32) × (Nat → Int32) × Int32 × Int32 × Int32 × (Nat → Int32) × (Nat → Int32)) => (((0 ≤ p0.toInt ∧ p0.toInt < p1.toInt ∧ p1.toInt ≤ len.toInt) ∧ u.1.toInt = 0 ∧ mj_ask u.2.2.2.1 u.2.2.2.2.1 u.2.2.2.2.2.2.2.1 u.2.1.toInt p0.toInt p1.toInt r) ∨ ((p0.toInt < 0 ∨ p1.toInt ≤ p0.toInt ∨ len.toInt < p1.toInt) ∧ r = -1)) ∧ laidX u.1 slots u.2.2.1 f u.2.2.2.1 u.2.2.2.2.1 u.2.2.2.2.2.1 u.2.2.2.2.2.2.1 u.2.2.2.2.2.2.2.1 u.2.2.2.2.2.2.2.2.1 u.2.2.2.2.2.2.2.2.2.1 u.2.1 len ∧ sixes u.2.2.2.2.2.1) (fun (u : Int32 × Int32 × Int32 × (Nat → Int32) × (Nat → Int32) × (Nat → Int32) × (Nat → Int32) × (Nat → Int32) × (Nat → Int32) × (Nat → Int32) × Int32 × Int32 × Int32 × (Nat → Int32) × (Nat → Int32)) (t : State) => va_P (dC, dI) vwCl [kx_4 m_ q_row q_t t_ h0 k0 w_ z_ slots u.1, kx_2 q_t q_row q_joined q_from q_to q_size q_lossOf q_lessBy q_value q_number u.2.1 u.2.2.1, kx_0 q_row q_cell len, kx_a q_cell cyI 160 f, kx_a q_from cyI 319 u.2.2.2.1, kx_a q_to cyI 319 u.2.2.2.2.1, kx_a q_size cyI 319 u.2.2.2.2.2.1, kx_a q_lossOf cyI 319 u.2.2.2.2.2.2.1, kx_a q_lessBy cyI 319 u.2.2.2.2.2.2.2.1, kx_a q_value cyI 1914 u.2.2.2.2.2.2.2.2.1, kx_a q_number cyI 1914 u.2.2.2.2.2.2.2.2.2.1, kx_3 q_joined j_v j_n u.2.2.2.2.2.2.2.2.2.2.1 u.2.2.2.2.2.2.2.2.2.2.2.1 u.2.2.2.2.2.2.2.2.2.2.2.2.1, kx_a j_v cyI 12 u.2.2.2.2.2.2.2.2.2.2.2.2.2.1, kx_a j_n cyI 12 u.2.2.2.2.2.2.2.2.2.2.2.2.2.2] t.heap ∧ va_K (dC, dI) vwCl [(cyI, .int)] t ∧ va_D (va_A [kx_4 m_ q_row q_t t_ h0 k0 w_ z_ slots old, kx_2 q_t q_row q_joined q_from q_to q_size q_lossOf q_lessBy q_value q_number nodes here, kx_0 q_row q_cell len, kx_a q_cell cyI 160 f, kx_a q_from cyI 319 ff, kx_a q_to cyI 319 ft, kx_a q_size cyI 319 fs, kx_a q_lossOf cyI 319 fo, kx_a q_lessBy cyI 319 fe, kx_a q_value cyI 1914 uv, kx_a q_number cyI 1914 un, kx_3 q_joined j_v j_n js jl je, kx_a j_v cyI 12 jv, kx_a j_n cyI 12 jn] sz) [kx_4 m_ q_row q_t t_ h0 k0 w_ z_ slots u.1, kx_2 q_t q_row q_joined q_from q_to q_size q_lossOf q_lessBy q_value q_number u.2.1 u.2.2.1, kx_0 q_row q_cell len, kx_a q_cell cyI 160 f, kx_a q_from cyI 319 u.2.2.2.1, kx_a q_to cyI 319 u.2.2.2.2.1, kx_a q_size cyI 319 u.2.2.2.2.2.1, kx_a q_lossOf cyI 319 u.2.2.2.2.2.2.1, kx_a q_lessBy cyI 319 u.2.2.2.2.2.2.2.1, kx_a q_value cyI 1914 u.2.2.2.2.2.2.2.2.1, kx_a q_number cyI 1914 u.2.2.2.2.2.2.2.2.2.1, kx_3 q_joined j_v j_n u.2.2.2.2.2.2.2.2.2.2.1 u.2.2.2.2.2.2.2.2.2.2.2.1 u.2.2.2.2.2.2.2.2.2.2.2.2.1, kx_a j_v cyI 12 u.2.2.2.2.2.2.2.2.2.2.2.2.2.1, kx_a j_n cyI 12 u.2.2.2.2.2.2.2.2.2.2.2.2.2.2]) (va_A [kx_4 m_ q_row q_t t_ h0 k0 w_ z_ slots old, kx_2 q_t q_row q_joined q_from q_to q_size q_lossOf q_lessBy q_value q_number nodes here, kx_0 q_row q_cell len, kx_a q_cell cyI 160 f, kx_a q_from cyI 319 ff, kx_a q_to cyI 319 ft, kx_a q_size cyI 319 fs, kx_a q_lossOf cyI 319 fo, kx_a q_lessBy cyI 319 fe, kx_a q_value cyI 1914 uv, kx_a q_number cyI 1914 un, kx_3 q_joined j_v j_n js jl je, kx_a j_v cyI 12 jv, kx_a j_n cyI 12 jn] sz)) 0 0 (va_A [kx_4 m_ q_row q_t t_ h0 k0 w_ z_ slots old, kx_2 q_t q_row q_joined q_from q_to q_size q_lossOf q_lessBy q_value q_number nodes here, kx_0 q_row q_cell len, kx_a q_cell cyI 160 f, kx_a q_from cyI 319 ff, kx_a q_to cyI 319 ft, kx_a q_size cyI 319 fs, kx_a q_lossOf cyI 319 fo, kx_a q_lessBy cyI 319 fe, kx_a q_value cyI 1914 uv, kx_a q_number cyI 1914 un, kx_3 q_joined j_v j_n js jl je, kx_a j_v cyI 12 jv, kx_a j_n cyI 12 jn] sz) := by
  refine Met.ofW (cc := cX4_cancelled) (maxL := 5) (ret := (some .int)) (by decide) rfl ?_
  intro p e s m args below meth c s₁ B hml hv
  obtain ⟨rfl, hsz, hP, hK, hD0⟩ := hv
  have hx := B.exec
  have hb := B.bytes
  have hr := B.returns
  have hts := atoms_spec (ws := wsX4_cancelled) B.pre
  have hown : s.vm.findClass RX4 = some m.cls := findClass_of_methodNamed B.named
  have hlocks := B.notSynchronized
  subst hsz
  have hD := hD0.self (sz := s.heap.size)
  generalize hAe : va_A [kx_4 m_ q_row q_t t_ h0 k0 w_ z_ slots old, kx_2 q_t q_row q_joined q_from q_to q_size q_lossOf q_lessBy q_value q_number nodes here, kx_0 q_row q_cell len, kx_a q_cell cyI 160 f, kx_a q_from cyI 319 ff, kx_a q_to cyI 319 ft, kx_a q_size cyI 319 fs, kx_a q_lossOf cyI 319 fo, kx_a q_lessBy cyI 319 fe, kx_a q_value cyI 1914 uv, kx_a q_number cyI 1914 un, kx_3 q_joined j_v j_n js jl je, kx_a j_v cyI 12 jv, kx_a j_n cyI 12 jn] s.heap.size = A at hD ⊢
  have hA : ∀ q : Nat, s.heap.size ≤ q → A q := fun q h => by rw [← hAe]; exact Or.inr h
  have hS : va_S A s.heap s.heap [] := va_S.rf
  have hP : va_P (dC, dI) vwCl [kx_4 m_ q_row q_t t_ h0 k0 w_ z_ slots old, kx_2 q_t q_row q_joined q_from q_to q_size q_lossOf q_lessBy q_value q_number nodes here, kx_0 q_row q_cell len, kx_a q_cell cyI 160 f, kx_a q_from cyI 319 ff, kx_a q_to cyI 319 ft, kx_a q_size cyI 319 fs, kx_a q_lossOf cyI 319 fo, kx_a q_lessBy cyI 319 fe, kx_a q_value cyI 1914 uv, kx_a q_number cyI 1914 un, kx_3 q_joined j_v j_n js jl je, kx_a j_v cyI 12 jv, kx_a j_n cyI 12 jn] s.heap := hP
  have hl := lv_entry ([.ref m_, .int p0, .int p1]) (n := 5) (Nat.le_of_ble_eq_true rfl)
  rw [lg_entry_eq]
  generalize (lg_sl ([.ref m_, .int p0, .int p1]) ++ List.replicate (5 - (lg_sl ([.ref m_, .int p0, .int p1])).length) Slot.unset).toArray = ls at hl ⊢
  have hl : lv_has ls 5 [(0, .ref m_), (1, .int p0), (2, .int p1)] := hl
  have hf_12 := hts (.fieldLink RX4 12 "MajorityIndex" "row" "LMajorityIndex$Row;") (List.mem_of_getElem? (i := 1) rfl)
  have hi_4 : ∀ w ∈ u_ws RX4 TX4 9, w ∈ wsX4_cancelled := fun w h => List.mem_cons_of_mem _ (List.mem_append_left _ (List.mem_append_left _ (List.mem_append_left _ (List.mem_append_right _ h))))
  have hf_142 := hts (.fieldLink RX4 142 "MajorityIndex$Tree" "lessBy" "[I") (List.mem_of_getElem? (i := 2) rfl)
  have hi_2 : ∀ w ∈ u_ws RX2 TX2 11, w ∈ wsX4_cancelled := fun w h => List.mem_cons_of_mem _ (List.mem_append_left _ (List.mem_append_left _ (List.mem_append_right _ h)))
  refine lv_aload_n hx hb dX4_cancelled_0 rfl (lv_at hl 0 rfl) ?_
  refine va_get (D := (dC, dI)) (ci := 4) (v := .ref q_row) (C := RX4) (T := TX4) (N := 9) hx hb hts hi_4 hown hK hP 0 rfl rfl 0 (by decide) hf_12 (fun _ h9 => h9) rfl dX4_cancelled_1 ?_
  refine lv_iload_n hx hb dX4_cancelled_4 rfl (lv_at hl 1 rfl) ?_
  refine lv_iload_n hx hb dX4_cancelled_5 rfl (lv_at hl 2 rfl) ?_
  have hPc := hP.sub (ws' := [kx_0 q_row q_cell len]) [2] rfl
  have hKc := hK.sub (tys' := []) [] rfl
  refine vp_callSi (W.runV (As := [.int p0, .int p1]) (rest := []) ⟨hx, hb, hml, hown, hts⟩ (c_X0_hasRange l dC dI q_row q_cell len p0 p1) (cwV 2 hts gX4_cancelled_X0_hasRange rfl rfl rfl (by decide +kernel) ⟨Nat.le_of_ble_eq_true rfl, Nat.le_of_ble_eq_true rfl⟩) ⟨fun a U g mk q => by obtain ⟨q0, qP, qK⟩ := q; exact ⟨q0, qP, va_K.moved (u := U) (U := U.calling g mk a) (Vm.Alike.refl U.vm) qK⟩, va_recv hKc hPc (ci := 0) (q0 := 0) rfl rfl, fun U hU hW => ⟨rfl, by rw [hU]; exact hPc, va_K.moved hW.alike hKc⟩⟩ rfl rfl hl.1 rfl (lv_room (Nat.le_of_ble_eq_true rfl)) dX4_cancelled_6 ⟨Nat.le_of_ble_eq_true rfl, Nat.le_of_ble_eq_true rfl⟩) (fun r_1 w_1 => ?_)
  rcases w_1 with ⟨rfl, w_1⟩ | ⟨rfl, w_1⟩
  · have w_1 : (0 ≤ p0.toInt ∧ p0.toInt < p1.toInt ∧ p1.toInt ≤ len.toInt) := w_1
    refine lv_if_ne (tgt := 14) hx hb dX4_cancelled_9 (by decide) (fun c_2 => ?_) (fun c_2 => ?_)
    · refine lv_aload_n hx hb dX4_cancelled_14 rfl (lv_at hl 0 rfl) ?_
      have hPc := hP
      have hKc := hK
      have hDc := hD
      have hFc := kx_free hD hS hA
      refine va_callr (va_runV (As := []) (rest := []) ⟨hx, hb, hml, hown, hts⟩ (c_X4_laidTree_x l dC dI m_ q_row q_t t_ h0 k0 w_ z_ slots old q_joined q_from q_to q_size q_lossOf q_lessBy q_value q_number nodes here q_cell cyI len f ff ft fs fo uv un fe j_v j_n js jl je jv jn s.heap.size a0 a1 s0 sl0 sl1 l0) (cwV 0 hts gX4_cancelled_X4_laidTree rfl rfl rfl (by decide +kernel) ⟨Nat.le_of_ble_eq_true rfl, Nat.le_of_ble_eq_true rfl⟩) ⟨fun a U g mk q => by obtain ⟨q0, q1, qP, qK, qD⟩ := q; exact ⟨q0, q1, qP, va_K.moved (u := U) (U := U.calling g mk a) (Vm.Alike.refl U.vm) qK, qD⟩, va_recv hKc hPc (ci := 4) (q0 := 0) rfl rfl, fun U hU hW => ⟨rfl, by rw [hU], by rw [hU]; exact hPc, va_K.moved hW.alike hKc, hDc.weaken (fun _ _ _ _ => trivial)⟩⟩ rfl rfl hl.1 rfl (lv_room (Nat.le_of_ble_eq_true rfl)) dX4_cancelled_15 ⟨Nat.le_of_ble_eq_true rfl, Nat.le_of_ble_eq_true rfl⟩) hS (fun q _ h => hFc q h) hFc (fun u ra t H1 locs ht hvm w_3 hB hz1 hk1 hS => ?_)
      obtain ⟨o_4, o_5, o_6, o_7, o_8, o_9, o_10, o_11, o_12, o_13, o_14, o_15, o_16, o_17, o_18⟩ := u
      dsimp only at w_3 hB
      obtain ⟨er, hP1, hK1, hD1⟩ := hB
      rw [ht] at hP1
      have hK1 := va_K.moved hvm.symm hK1
      have hD := hD1.weaken (fun _ q _ h => hFc q.1 h)
      have hP := hP1
      clear hP1 hD1 hK1 hk1 hz1 hFc hDc hPc hKc
      generalize H1 = H at hP hS ⊢
      have w_3 : o_4.toInt = 0 ∧ o_6 = slots ∧ sixes o_9 ∧ mj_C slots.toNatClampNeg f o_7 o_8 o_9 o_10 o_11 o_12 o_13 o_5.toInt len.toInt ∧ 0 ≤ o_5.toInt ∧ o_5.toInt ≤ 319 ∧ treeOk o_7 o_8 o_5.toInt len.toInt := w_3
      rw [er]
      refine lv_astore_n (lv' := [(3, .ref q_t), (0, .ref m_), (1, .int p0), (2, .int p1)]) hx hb dX4_cancelled_18 rfl hl (by decide) rfl (fun ls hl => ?_)
      refine lv_aload_n hx hb dX4_cancelled_19 rfl (lv_at hl 0 rfl) ?_
      refine lv_iload_n hx hb dX4_cancelled_20 rfl (lv_at hl 2 rfl) ?_
      refine lv_iload_n hx hb dX4_cancelled_21 rfl (lv_at hl 3 rfl) ?_
      have hPc := hP.sub (ws' := [kx_2 q_t q_row q_joined q_from q_to q_size q_lossOf q_lessBy q_value q_number o_5 o_6, kx_a q_from cyI 319 o_7, kx_a q_to cyI 319 o_8]) [1, 4, 5] rfl
      have hKc := hK
      refine vp_callSi (W.runV (As := [.int p0, .int p1]) (rest := []) ⟨hx, hb, hml, hown, hts⟩ (c_X2_find_x l dC dI q_t q_row q_joined q_from q_to q_size q_lossOf q_lessBy q_value q_number o_5 o_6 cyI o_7 o_8 p0 p1 w_3.2.2.2.2.1 w_3.2.2.2.2.2.1) (cwV 2 hts gX4_cancelled_X2_find rfl rfl rfl (by decide +kernel) ⟨Nat.le_of_ble_eq_true rfl, Nat.le_of_ble_eq_true rfl⟩) ⟨fun a U g mk q => by obtain ⟨q0, qP, qK⟩ := q; exact ⟨q0, qP, va_K.moved (u := U) (U := U.calling g mk a) (Vm.Alike.refl U.vm) qK⟩, va_recv hKc hPc (ci := 2) (q0 := 0) rfl rfl, fun U hU hW => ⟨rfl, by rw [hU]; exact hPc, va_K.moved hW.alike hKc⟩⟩ rfl rfl hl.1 rfl (lv_room (Nat.le_of_ble_eq_true rfl)) dX4_cancelled_22 ⟨Nat.le_of_ble_eq_true rfl, Nat.le_of_ble_eq_true rfl⟩) (fun r_19 w_19 => ?_)
      have w_19 : mj_first (fun k => (o_7 k).toInt = p0.toInt ∧ (o_8 k).toInt = p1.toInt) 0 o_5.toNatClampNeg (-1) r_19.toInt ∧ (r_19.toInt = -1 ∨ (0 ≤ r_19.toInt ∧ r_19.toInt < o_5.toInt)) := w_19
      refine lv_istore (lv' := [(4, .int r_19), (3, .ref q_t), (0, .ref m_), (1, .int p0), (2, .int p1)]) hx hb dX4_cancelled_25 hl (by decide) rfl (fun ls hl => ?_)
      refine lv_iload hx hb dX4_cancelled_27 (lv_at hl 0 rfl) ?_
      refine lv_iconst (v := (-1)) hx hb dX4_cancelled_29 (by decide) ?_
      refine lv_icmp_ne (tgt := 38) hx hb dX4_cancelled_30 (by decide) (fun c_20 => ?_) (fun c_20 => ?_)
      · have i_20 : ¬ r_19.toInt = (-1) := kc_ne c_20
        refine lv_aload_n hx hb dX4_cancelled_38 rfl (lv_at hl 1 rfl) ?_
        refine va_get (D := (dC, dI)) (ci := 2) (v := .ref q_lessBy) (C := RX2) (T := TX2) (N := 11) hx hb hts hi_2 hown hK hP 1 rfl rfl 6 (by decide) hf_142 (fun _ h9 => h9) rfl dX4_cancelled_39 ?_
        refine lv_iload hx hb dX4_cancelled_42 (lv_at hl 0 rfl) ?_
        refine va_iald hx hb hK hP 8 0 rfl rfl (ki_in (by omega) (by omega)) dX4_cancelled_44 ?_
        refine lv_topi (fun y_21 ey_21 => ?_)
        have j_21 : y_21.toInt = (o_11 r_19.toNatClampNeg).toInt := congrArg Int32.toInt ey_21
        have hP9 := hP
        have hD9 := hD
        have hK9 := hK
        have n_nd := ki_nat o_5 rfl (by omega)
        exact W.iret (v := y_21) hx hb hr (fun t ht hW => ⟨⟨y_21, (o_4, o_5, o_6, o_7, o_8, o_9, o_10, o_11, o_12, o_13, o_14, o_15, o_16, o_17, o_18), rfl, ⟨Or.inl ⟨(by (try dsimp only); omega), w_3.1, mj_ask_yes w_19.1 n_nd (by omega) ey_21⟩, (fun _ => ⟨w_3.2.1, w_3.2.2.2.1⟩), w_3.2.2.1⟩, by rw [ht]; exact hP9, va_K.moved hW.alike hK9, hD9⟩, hS.F ht⟩) hS.2.2 dX4_cancelled_45
      · have i_20 : r_19.toInt = (-1) := kc_eq c_20
        refine lv_bipush (v := (-2)) hx hb dX4_cancelled_33 (by decide) ?_
        refine lv_goto (tgt := 45) hx hb dX4_cancelled_35 (by decide) ?_
        have hP9 := hP
        have hD9 := hD
        have hK9 := hK
        have n_nd := ki_nat o_5 rfl (by omega)
        exact W.iret (v := (-2)) hx hb hr (fun t ht hW => ⟨⟨(-2), (o_4, o_5, o_6, o_7, o_8, o_9, o_10, o_11, o_12, o_13, o_14, o_15, o_16, o_17, o_18), rfl, ⟨Or.inl ⟨(by (try dsimp only); omega), w_3.1, mj_ask_no w_19.1 n_nd (by omega) (by omega)⟩, (fun _ => ⟨w_3.2.1, w_3.2.2.2.1⟩), w_3.2.2.1⟩, by rw [ht]; exact hP9, va_K.moved hW.alike hK9, hD9⟩, hS.F ht⟩) hS.2.2 dX4_cancelled_45
    · exact absurd c_2 (by decide)
  · have w_1 : (p0.toInt < 0 ∨ p1.toInt ≤ p0.toInt ∨ len.toInt < p1.toInt) := w_1
    refine lv_if_ne (tgt := 14) hx hb dX4_cancelled_9 (by decide) (fun c_22 => ?_) (fun c_22 => ?_)
    · exact absurd c_22 (by decide)
    · refine lv_iconst (v := (-1)) hx hb dX4_cancelled_12 (by decide) ?_
      have hP9 := hP
      have hD9 := hD
      have hK9 := hK
      exact W.iret (v := (-1)) hx hb hr (fun t ht hW => ⟨⟨(-1), (old, nodes, here, ff, ft, fs, fo, fe, uv, un, js, jl, je, jv, jn), rfl, ⟨Or.inr ⟨(by (try dsimp only); omega), rfl⟩, l0, s0⟩, by rw [ht]; exact hP9, va_K.moved hW.alike hK9, hD9⟩, hS.F ht⟩) hS.2.2 dX4_cancelled_13



/-! the summary of a range, of the class -/
theorem mj_ok_vs {K : Nat} {f ff ft fs fo fe uv un : Nat → Int32} {nd n : Int} {k : Nat} (h : mj_ok K f ff ft fs fo fe uv un k) (ht : treeOk ff ft nd n) (hk : (k : Int) < nd) (hn : n ≤ 160) : 0 ≤ (fs k).toInt ∧ (fs k).toInt ≤ 6 ∧ (fs k).toInt ≤ (K : Int) ∧ ∃ μ : Int32 → Int, mj_vs uv un (6 * k) (fs k).toNatClampNeg μ ∧ mj_srt uv un (6 * k) (fs k).toNatClampNeg ∧ ∀ v : Int32, 0 ≤ μ v ∧ μ v ≤ 160 := by
  obtain ⟨d, μ, L, c, t⟩ := h
  obtain ⟨a1, a2, a3, a4⟩ := ht k hk
  have n1 := ki_nat (ff k) rfl a1
  have n2 := ki_nat (ft k) rfl (by omega)
  have b := mj_T_nd t
  refine ⟨b.2.2.1, b.2.2.2.1, b.2.2.2.2.1, μ, b.2.2.2.2.2.2.2.1, b.2.2.2.2.2.2.2.2, fun v => ?_⟩
  have := mj_T_le _ _ _ _ _ _ _ t v
  omega
def mj_GA (K : Nat) (ff ft fs fo uv un : Nat → Int32) (l r : Int) (j : Nat) (vs lo : Int32) (fv fn : Nat → Int32) : Prop := ∃ (μ : Int32 → Int) (L : Int32), mj_H K ff ft fs fo uv un l r j μ L ∧ mj_vs fv fn 0 vs.toNatClampNeg μ ∧ mj_srt fv fn 0 vs.toNatClampNeg ∧ 0 ≤ vs.toInt ∧ vs.toInt ≤ (K : Int) ∧ lo = L ∧ ∀ v : Int32, 0 ≤ μ v ∧ μ v ≤ 160 * (j : Int)
theorem mj_GA_0 (K : Nat) (ff ft fs fo uv un : Nat → Int32) (l r : Int) (fv fn : Nat → Int32) {j : Nat} (h : j = 0) : mj_GA K ff ft fs fo uv un l r j 0 0 fv fn := by
  subst h
  refine ⟨mj_z, 0, ⟨rfl, rfl⟩, mj_vs_zero fv fn 0, mj_srt_1 _ _ (Nat.zero_le 1), by decide, ?_, rfl, fun v => ?_⟩
  · show (0 : Int) ≤ (K : Int)
    omega
  · show (0 : Int) ≤ 0 ∧ (0 : Int) ≤ _
    omega
theorem mj_GA_step {K : Nat} {ff ft fs fo uv un fv fn : Nat → Int32} {l r : Int} {j j2 k : Nat} {mua mub mu : Int32 → Int} {L0 c lo lo1 lo2 vs2 : Int32} (hH : mj_H K ff ft fs fo uv un l r j mua L0) (hk : k < 320) (hp : mj_isp ff ft l r k) (hq : mj_pq ff ft l r k = j) (b0 : 0 ≤ (fs k).toInt) (b6 : (fs k).toInt ≤ 6) (hv : mj_vs uv un (6 * k) (fs k).toNatClampNeg mub) (tg : mj_can K (fun w => mua w + mub w) mu c) (e0 : lo = L0) (e1 : lo1 = lo + fo k) (e2 : lo2 = lo1 + c) (v3 : mj_vs fv fn 0 vs2.toNatClampNeg mu) (s3 : mj_srt fv fn 0 vs2.toNatClampNeg) (c0 : 0 ≤ vs2.toInt) (cK : vs2.toInt ≤ (K : Int)) (ha : ∀ v : Int32, 0 ≤ mua v ∧ mua v ≤ 160 * (j : Int)) (hb : ∀ v : Int32, 0 ≤ mub v ∧ mub v ≤ 160) (ej : j2 = j + 1) : mj_GA K ff ft fs fo uv un l r j2 vs2 lo2 fv fn := by
  subst ej
  have tg2 := mj_can_tog tg (fun v => rfl)
  refine ⟨mu, lo2, ⟨k, mua, L0, c, mub, hk, hH, hp, hq, hv, b0, b6, tg2, by rw [e2, e1, e0]⟩, v3, s3, c0, cK, rfl, fun v => ?_⟩
  have h1 := mj_tog_le tg2 (fun w => (ha w).1) (fun w => (hb w).1) v
  have h2 := ha v
  have h3 := hb v
  omega
theorem mj_vs_map {V N : Nat → Int32} {o m : Nat} {μ ν : Int32 → Int} (h : mj_vs V N o m μ) (h2 : mj_vs V N o m ν) : μ = ν := funext fun v => (mj_pm_full h v).symm.trans (mj_pm_full h2 v)
theorem mj_pbq_yes {nl nr : Nat → Int32} {l r : Int} {k k2 : Nat} (hp : mj_isp nl nr l r k) (e : k2 = k + 1) : mj_pb nl nr l r k2 = (nr k).toInt ∧ mj_pq nl nr l r k2 = mj_pq nl nr l r k + 1 := by
  subst e
  have h : (nl k).toInt = mj_pb nl nr l r k ∧ (nr k).toInt ≤ r := hp
  simp only [mj_pb, mj_pq]
  rw [if_pos h, if_pos h]
  exact ⟨rfl, rfl⟩
theorem mj_pbq_no {nl nr : Nat → Int32} {l r : Int} {k k2 : Nat} (hp : ¬ mj_isp nl nr l r k) (e : k2 = k + 1) : mj_pb nl nr l r k2 = mj_pb nl nr l r k ∧ mj_pq nl nr l r k2 = mj_pq nl nr l r k := by
  subst e
  have h : ¬ ((nl k).toInt = mj_pb nl nr l r k ∧ (nr k).toInt ≤ r) := hp
  simp only [mj_pb, mj_pq]
  rw [if_neg h, if_neg h]
  exact ⟨rfl, rfl⟩

set_option maxHeartbeats 4000000 in
set_option maxRecDepth 100000 in
theorem c_X2_gather_x (l : Launch) (dC : Nat → ClassId) (dI : Nat → Nat → Nat) (q_t : Nat) (q_row : Nat) (q_joined : Nat) (q_from : Nat) (q_to : Nat) (q_size : Nat) (q_lossOf : Nat) (q_lessBy : Nat) (q_value : Nat) (q_number : Nat) (nodes : Int32) (here : Int32) (h0 : Nat) (a_v : Nat) (a_n : Nat) (cyI : ClassId) (vs : Int32) (lo : Int32) (le : Int32) (fv : Nat → Int32) (fn : Nat → Int32) (len : Int32) (f : Nat → Int32) (ff : Nat → Int32) (ft : Nat → Int32) (fs : Nat → Int32) (fo : Nat → Int32) (uv : Nat → Int32) (un : Nat → Int32) (fe : Nat → Int32) (p0 : Int32) (p1 : Int32) (sz : Nat) (b0 : 0 ≤ nodes.toInt) (c0 : nodes.toInt ≤ 319) (s0 : sixes fs) (c1 : len.toInt ≤ 160) (k0 : 1 ≤ here.toInt) (k1 : here.toInt ≤ 6) (t0 : treeOk ff ft nodes.toInt len.toInt) (hok : ∀ k : Nat, (k : Int) < nodes.toInt → mj_ok here.toNatClampNeg f ff ft fs fo fe uv un k) : Met l yX2_gather wsX2_gather ({ frames := 3, cells := 0, slots := 0, locals := 135 }) (va_Pc [.ref q_t, .ref h0, .int p0, .int p1] (fun U => U.heap.size = sz ∧ va_P (dC, dI) vwCl [kx_2 q_t q_row q_joined q_from q_to q_size q_lossOf q_lessBy q_value q_number nodes here, kx_a q_from cyI 319 ff, kx_a q_to cyI 319 ft, kx_a q_size cyI 319 fs, kx_a q_lossOf cyI 319 fo, kx_a q_value cyI 1914 uv, kx_a q_number cyI 1914 un, kx_3 h0 a_v a_n vs lo le, kx_a a_v cyI 12 fv, kx_a a_n cyI 12 fn] U.heap ∧ va_K (dC, dI) vwCl [(cyI, .int)] U ∧ va_D (fun _ => True) [kx_2 q_t q_row q_joined q_from q_to q_size q_lossOf q_lessBy q_value q_number nodes here, kx_a q_from cyI 319 ff, kx_a q_to cyI 319 ft, kx_a q_size cyI 319 fs, kx_a q_lossOf cyI 319 fo, kx_a q_value cyI 1914 uv, kx_a q_number cyI 1914 un, kx_3 h0 a_v a_n vs lo le, kx_a a_v cyI 12 fv, kx_a a_n cyI 12 fn])) (va_Qv (fun u : Int32 × Int32 × Int32 × (Nat → Int32) × (Nat → Int32) => mj_GA here.toNatClampNeg ff ft fs fo uv un p0.toInt p1.toInt (mj_pq ff ft p0.toInt p1.toInt nodes.toNatClampNeg) u.1 u.2.1 u.2.2.2.1 u.2.2.2.2 ∧ 0 ≤ u.1.toInt ∧ u.1.toInt ≤ here.toInt) (fun (u : Int32 × Int32 × Int32 × (Nat → Int32) × (Nat → Int32)) (t : State) => va_P (dC, dI) vwCl [kx_2 q_t q_row q_joined q_from q_to q_size q_lossOf q_lessBy q_value q_number nodes here, kx_a q_from cyI 319 ff, kx_a q_to cyI 319 ft, kx_a q_size cyI 319 fs, kx_a q_lossOf cyI 319 fo, kx_a q_value cyI 1914 uv, kx_a q_number cyI 1914 un, kx_3 h0 a_v a_n u.1 u.2.1 u.2.2.1, kx_a a_v cyI 12 u.2.2.2.1, kx_a a_n cyI 12 u.2.2.2.2] t.heap ∧ va_K (dC, dI) vwCl [(cyI, .int)] t ∧ va_D (va_A [kx_2 q_t q_row q_joined q_from q_to q_size q_lossOf q_lessBy q_value q_number nodes here, kx_a q_from cyI 319 ff, kx_a q_to cyI 319 ft, kx_a q_size cyI 319 fs, kx_a q_lossOf cyI 319 fo, kx_a q_value cyI 1914 uv, kx_a q_number cyI 1914 un, kx_3 h0 a_v a_n vs lo le, kx_a a_v cyI 12 fv, kx_a a_n cyI 12 fn] sz) [kx_2 q_t q_row q_joined q_from q_to q_size q_lossOf q_lessBy q_value q_number nodes here, kx_a q_from cyI 319 ff, kx_a q_to cyI 319 ft, kx_a q_size cyI 319 fs, kx_a q_lossOf cyI 319 fo, kx_a q_value cyI 1914 uv, kx_a q_number cyI 1914 un, kx_3 h0 a_v a_n u.1 u.2.1 u.2.2.1, kx_a a_v cyI 12 u.2.2.2.1, kx_a a_n cyI 12 u.2.2.2.2]) (va_A [kx_2 q_t q_row q_joined q_from q_to q_size q_lossOf q_lessBy q_value q_number nodes here, kx_a q_from cyI 319 ff, kx_a q_to cyI 319 ft, kx_a q_size cyI 319 fs, kx_a q_lossOf cyI 319 fo, kx_a q_value cyI 1914 uv, kx_a q_number cyI 1914 un, kx_3 h0 a_v a_n vs lo le, kx_a a_v cyI 12 fv, kx_a a_n cyI 12 fn] sz)) 0 0 (va_A [kx_2 q_t q_row q_joined q_from q_to q_size q_lossOf q_lessBy q_value q_number nodes here, kx_a q_from cyI 319 ff, kx_a q_to cyI 319 ft, kx_a q_size cyI 319 fs, kx_a q_lossOf cyI 319 fo, kx_a q_value cyI 1914 uv, kx_a q_number cyI 1914 un, kx_3 h0 a_v a_n vs lo le, kx_a a_v cyI 12 fv, kx_a a_n cyI 12 fn] sz) := by
  refine Met.ofW (cc := cX2_gather) (maxL := 6) (ret := none) (by decide) rfl ?_
  intro p e s m args below meth c s₁ B hml hv
  obtain ⟨rfl, hsz, hP, hK, hD0⟩ := hv
  have hx := B.exec
  have hb := B.bytes
  have hr := B.returns
  have hts := atoms_spec (ws := wsX2_gather) B.pre
  have hown : s.vm.findClass RX2 = some m.cls := findClass_of_methodNamed B.named
  have hlocks := B.notSynchronized
  subst hsz
  have hD := hD0.self (sz := s.heap.size)
  generalize hAe : va_A [kx_2 q_t q_row q_joined q_from q_to q_size q_lossOf q_lessBy q_value q_number nodes here, kx_a q_from cyI 319 ff, kx_a q_to cyI 319 ft, kx_a q_size cyI 319 fs, kx_a q_lossOf cyI 319 fo, kx_a q_value cyI 1914 uv, kx_a q_number cyI 1914 un, kx_3 h0 a_v a_n vs lo le, kx_a a_v cyI 12 fv, kx_a a_n cyI 12 fn] s.heap.size = A at hD ⊢
  have hA : ∀ q : Nat, s.heap.size ≤ q → A q := fun q h => by rw [← hAe]; exact Or.inr h
  have hS : va_S A s.heap s.heap [] := va_S.rf
  have hP : va_P (dC, dI) vwCl [kx_2 q_t q_row q_joined q_from q_to q_size q_lossOf q_lessBy q_value q_number nodes here, kx_a q_from cyI 319 ff, kx_a q_to cyI 319 ft, kx_a q_size cyI 319 fs, kx_a q_lossOf cyI 319 fo, kx_a q_value cyI 1914 uv, kx_a q_number cyI 1914 un, kx_3 h0 a_v a_n vs lo le, kx_a a_v cyI 12 fv, kx_a a_n cyI 12 fn] s.heap := hP
  have hl := lv_entry ([.ref q_t, .ref h0, .int p0, .int p1]) (n := 6) (Nat.le_of_ble_eq_true rfl)
  rw [lg_entry_eq]
  generalize (lg_sl ([.ref q_t, .ref h0, .int p0, .int p1]) ++ List.replicate (6 - (lg_sl ([.ref q_t, .ref h0, .int p0, .int p1])).length) Slot.unset).toArray = ls at hl ⊢
  have hl : lv_has ls 6 [(0, .ref q_t), (1, .ref h0), (2, .int p0), (3, .int p1)] := hl
  have hf_50 := hts (.fieldLink RX2 50 "MajorityIndex$Tree" "nodes" "I") (List.mem_of_getElem? (i := 1) rfl)
  have hi_2 : ∀ w ∈ u_ws RX2 TX2 11, w ∈ wsX2_gather := fun w h => List.mem_cons_of_mem _ (List.mem_append_left _ (List.mem_append_right _ h))
  have hf_22 := hts (.fieldLink RX2 22 "MajorityIndex$Tree" "to" "[I") (List.mem_of_getElem? (i := 2) rfl)
  have hf_85 := hts (.fieldLink RX2 85 "MajorityIndex$Tree" "slotsHere" "I") (List.mem_of_getElem? (i := 3) rfl)
  have n_nd := ki_nat nodes rfl (om_8 b0)
  have n_h := ki_nat here rfl (om_44 k0)
  refine lv_aload_n hx hb dX2_gather_0 rfl (lv_at hl 1 rfl) ?_
  obtain ⟨hPc, hDc, hFc, hCc⟩ := kx_pre (wc := [kx_3 h0 a_v a_n vs lo le]) hP hD hS hA [7] (by decide) rfl
  have hKc := hK.sub (tys' := []) [] rfl
  refine va_callv (va_runV (As := []) (rest := []) ⟨hx, hb, hml, hown, hts⟩ (c_X3_clear l dC dI h0 a_v a_n vs lo le s.heap.size) (cwV 0 hts gX2_gather_X3_clear rfl rfl rfl (by decide +kernel) ⟨Nat.le_of_ble_eq_true rfl, Nat.le_of_ble_eq_true rfl⟩) ⟨fun a U g mk q => by obtain ⟨q0, q1, qP, qK, qD⟩ := q; exact ⟨q0, q1, qP, va_K.moved (u := U) (U := U.calling g mk a) (Vm.Alike.refl U.vm) qK, qD⟩, va_recv hKc hPc (ci := 3) (q0 := 0) rfl rfl, fun U hU hW => ⟨rfl, by rw [hU], by rw [hU]; exact hPc, va_K.moved hW.alike hKc, hDc.weaken (fun _ _ _ _ => trivial)⟩⟩ rfl rfl hl.1 rfl (lv_room (Nat.le_of_ble_eq_true rfl)) dX2_gather_1 ⟨Nat.le_of_ble_eq_true rfl, Nat.le_of_ble_eq_true rfl⟩) hS (fun q _ h => hFc q h) hFc (fun u t H1 locs ht hvm w_1 hB hz1 hk1 hS => ?_)
  obtain ⟨hP1, hK1, hD1⟩ := hB
  rw [ht] at hP1
  have hK1 := va_K.moved hvm.symm hK1
  obtain ⟨hP, hD⟩ := kx_join (w2 := [kx_2 q_t q_row q_joined q_from q_to q_size q_lossOf q_lessBy q_value q_number nodes here, kx_a q_from cyI 319 ff, kx_a q_to cyI 319 ft, kx_a q_size cyI 319 fs, kx_a q_lossOf cyI 319 fo, kx_a q_value cyI 1914 uv, kx_a q_number cyI 1914 un, kx_a a_v cyI 12 fv, kx_a a_n cyI 12 fn, kx_3 h0 a_v a_n 0 0 0]) hP hD hP1 hD1 hk1 hFc [7] [0, 1, 2, 3, 4, 5, 6, 8, 9] hCc rfl (by decide) (by decide)
  clear hP1 hD1 hK1 hk1 hz1 hFc hDc hPc hKc hCc
  generalize H1 = H at hP hS ⊢
  refine lv_iload_n hx hb dX2_gather_4 rfl (lv_at hl 2 rfl) ?_
  refine lv_istore (lv' := [(4, .int p0), (0, .ref q_t), (1, .ref h0), (2, .int p0), (3, .int p1)]) hx hb dX2_gather_5 hl (by decide) rfl (fun ls hl => ?_)
  refine lv_iconst (v := 0) hx hb dX2_gather_7 (by decide) ?_
  refine lv_istore (lv' := [(5, .int 0), (4, .int p0), (0, .ref q_t), (1, .ref h0), (2, .int p0), (3, .int p1)]) hx hb dX2_gather_8 hl (by decide) rfl (fun ls hl => ?_)
  have LP1 : ∀ (n : Nat) (i : Int32) (nxt : Int32) (zz : Int32) (zl : Int32) (zb : Int32) (yv : Nat → Int32) (yn : Nat → Int32), (0 ≤ i.toInt) → (i.toInt ≤ nodes.toInt) → (nxt.toInt = mj_pb ff ft p0.toInt p1.toInt i.toNatClampNeg) → (mj_GA here.toNatClampNeg ff ft fs fo uv un p0.toInt p1.toInt (mj_pq ff ft p0.toInt p1.toInt i.toNatClampNeg) zz zl yv yn) → (0 ≤ zz.toInt) → (zz.toInt ≤ 6) → (nodes.toInt - i.toInt).toNat < n → ∀ (H : Heap) (locs : List Loc), va_P (dC, dI) vwCl [kx_2 q_t q_row q_joined q_from q_to q_size q_lossOf q_lessBy q_value q_number nodes here, kx_a q_from cyI 319 ff, kx_a q_to cyI 319 ft, kx_a q_size cyI 319 fs, kx_a q_lossOf cyI 319 fo, kx_a q_value cyI 1914 uv, kx_a q_number cyI 1914 un, kx_a a_v cyI 12 yv, kx_a a_n cyI 12 yn, kx_3 h0 a_v a_n zz zl zb] H → va_D A [kx_2 q_t q_row q_joined q_from q_to q_size q_lossOf q_lessBy q_value q_number nodes here, kx_a q_from cyI 319 ff, kx_a q_to cyI 319 ft, kx_a q_size cyI 319 fs, kx_a q_lossOf cyI 319 fo, kx_a q_value cyI 1914 uv, kx_a q_number cyI 1914 un, kx_a a_v cyI 12 yv, kx_a a_n cyI 12 yn, kx_3 h0 a_v a_n zz zl zb] → va_S A s.heap H locs → ∀ (ls : Array Slot), lv_has ls 6 [(5, .int i), (4, .int nxt), (0, .ref q_t), (1, .ref h0), (2, .int p0), (3, .int p1)] → W p l e (headSpec wsX2_gather ({ frames := 3, cells := 0, slots := 0, locals := 135 })).room s m ([.ref q_t, .ref h0, .int p0, .int p1] : List Value).toArray below meth c H locs 0 0 (MQ below (va_Qv (fun u : Int32 × Int32 × Int32 × (Nat → Int32) × (Nat → Int32) => mj_GA here.toNatClampNeg ff ft fs fo uv un p0.toInt p1.toInt (mj_pq ff ft p0.toInt p1.toInt nodes.toNatClampNeg) u.1 u.2.1 u.2.2.2.1 u.2.2.2.2 ∧ 0 ≤ u.1.toInt ∧ u.1.toInt ≤ here.toInt) (fun (u : Int32 × Int32 × Int32 × (Nat → Int32) × (Nat → Int32)) (t : State) => va_P (dC, dI) vwCl [kx_2 q_t q_row q_joined q_from q_to q_size q_lossOf q_lessBy q_value q_number nodes here, kx_a q_from cyI 319 ff, kx_a q_to cyI 319 ft, kx_a q_size cyI 319 fs, kx_a q_lossOf cyI 319 fo, kx_a q_value cyI 1914 uv, kx_a q_number cyI 1914 un, kx_3 h0 a_v a_n u.1 u.2.1 u.2.2.1, kx_a a_v cyI 12 u.2.2.2.1, kx_a a_n cyI 12 u.2.2.2.2] t.heap ∧ va_K (dC, dI) vwCl [(cyI, .int)] t ∧ va_D A [kx_2 q_t q_row q_joined q_from q_to q_size q_lossOf q_lessBy q_value q_number nodes here, kx_a q_from cyI 319 ff, kx_a q_to cyI 319 ft, kx_a q_size cyI 319 fs, kx_a q_lossOf cyI 319 fo, kx_a q_value cyI 1914 uv, kx_a q_number cyI 1914 un, kx_3 h0 a_v a_n u.1 u.2.1 u.2.2.1, kx_a a_v cyI 12 u.2.2.2.1, kx_a a_n cyI 12 u.2.2.2.2]) A) ([.ref q_t, .ref h0, .int p0, .int p1] : List Value).toArray s 0 0 A) (F0 m 10 ls []) := by
    intro n
    induction n with
    | zero => intro i nxt zz zl zb yv yn LP1_h0 LP1_h1 LP1_h2 LP1_h3 LP1_h4 LP1_h5 hn; exact absurd hn (Nat.not_lt_zero _)
    | succ n ih1 =>
      intro i nxt zz zl zb yv yn LP1_h0 LP1_h1 LP1_h2 LP1_h3 LP1_h4 LP1_h5 hn1 H locs hP hD hS ls hl
      have n_i := ki_nat i rfl (om_8 LP1_h0)
      refine lv_iload hx hb dX2_gather_10 (lv_at hl 0 rfl) ?_
      refine lv_aload_n hx hb dX2_gather_12 rfl (lv_at hl 2 rfl) ?_
      refine va_get (D := (dC, dI)) (ci := 2) (v := .int nodes) (C := RX2) (T := TX2) (N := 11) hx hb hts hi_2 hown hK hP 0 rfl rfl 9 (by decide) hf_50 (fun _ h9 => h9) rfl dX2_gather_13 ?_
      refine lv_icmp_ge (tgt := 61) hx hb dX2_gather_16 (by decide) (fun c_2 => ?_) (fun c_2 => ?_)
      · have i_2 : nodes.toInt ≤ i.toInt := kc_le c_2
        obtain ⟨hP9, hD9⟩ := kx_sub (w2 := [kx_2 q_t q_row q_joined q_from q_to q_size q_lossOf q_lessBy q_value q_number nodes here, kx_a q_from cyI 319 ff, kx_a q_to cyI 319 ft, kx_a q_size cyI 319 fs, kx_a q_lossOf cyI 319 fo, kx_a q_value cyI 1914 uv, kx_a q_number cyI 1914 un, kx_3 h0 a_v a_n zz zl zb, kx_a a_v cyI 12 yv, kx_a a_n cyI 12 yn]) hP hD [0, 1, 2, 3, 4, 5, 6, 9, 7, 8] (by decide) rfl
        have hK9 := hK
        have q_i : i.toNatClampNeg = nodes.toNatClampNeg := by omega
        have h_g := LP1_h3
        rw [q_i] at h_g
        have h_k : zz.toInt ≤ here.toInt := by obtain ⟨_, _, _, _, _, _, h9, _⟩ := h_g; omega
        exact W.vret hx hb hr (fun t ht hW => ⟨⟨(zz, zl, zb, yv, yn), rfl, ⟨h_g, (by (try dsimp only); omega), (by (try dsimp only); omega)⟩, by rw [ht]; exact hP9, va_K.moved hW.alike hK9, hD9⟩, hS.F ht⟩) hS.2.2 dX2_gather_61
      · have i_2 : i.toInt < nodes.toInt := kc_nle c_2
        refine lv_aload_n hx hb dX2_gather_19 rfl (lv_at hl 2 rfl) ?_
        refine lv_iload hx hb dX2_gather_20 (lv_at hl 0 rfl) ?_
        refine lv_iload hx hb dX2_gather_22 (lv_at hl 1 rfl) ?_
        refine lv_iload_n hx hb dX2_gather_24 rfl (lv_at hl 5 rfl) ?_
        have hPc := hP.sub (ws' := [kx_2 q_t q_row q_joined q_from q_to q_size q_lossOf q_lessBy q_value q_number nodes here, kx_a q_from cyI 319 ff, kx_a q_to cyI 319 ft]) [0, 1, 2] rfl
        have hKc := hK
        refine vp_callSi (W.runV (As := [.int i, .int nxt, .int p1]) (rest := []) ⟨hx, hb, hml, hown, hts⟩ (c_X2_isPart l dC dI q_t q_row q_joined q_from q_to q_size q_lossOf q_lessBy q_value q_number nodes here cyI ff ft i nxt p1 LP1_h0 (om_113 c0 i_2)) (cwV 3 hts gX2_gather_X2_isPart rfl rfl rfl (by decide +kernel) ⟨Nat.le_of_ble_eq_true rfl, Nat.le_of_ble_eq_true rfl⟩) ⟨fun a U g mk q => by obtain ⟨q0, qP, qK⟩ := q; exact ⟨q0, qP, va_K.moved (u := U) (U := U.calling g mk a) (Vm.Alike.refl U.vm) qK⟩, va_recv hKc hPc (ci := 2) (q0 := 0) rfl rfl, fun U hU hW => ⟨rfl, by rw [hU]; exact hPc, va_K.moved hW.alike hKc⟩⟩ rfl rfl hl.1 rfl (lv_room (Nat.le_of_ble_eq_true rfl)) dX2_gather_25 ⟨Nat.le_of_ble_eq_true rfl, Nat.le_of_ble_eq_true rfl⟩) (fun r_3 w_3 => ?_)
        rcases w_3 with ⟨rfl, w_3⟩ | ⟨rfl, w_3⟩
        · have w_3 : ((ff i.toNatClampNeg).toInt = nxt.toInt ∧ (ft i.toNatClampNeg).toInt ≤ p1.toInt) := w_3
          refine lv_if_eq (tgt := 55) hx hb dX2_gather_28 (by decide) (fun c_4 => ?_) (fun c_4 => ?_)
          · exact absurd c_4 (by decide)
          · refine lv_aload_n hx hb dX2_gather_31 rfl (lv_at hl 2 rfl) ?_
            refine va_get (D := (dC, dI)) (ci := 2) (v := .ref q_to) (C := RX2) (T := TX2) (N := 11) hx hb hts hi_2 hown hK hP 0 rfl rfl 3 (by decide) hf_22 (fun _ h9 => h9) rfl dX2_gather_32 ?_
            refine lv_iload hx hb dX2_gather_35 (lv_at hl 0 rfl) ?_
            refine va_iald hx hb hK hP 2 0 rfl rfl (ki_in (om_8 LP1_h0) (om_106 c0 i_2)) dX2_gather_37 ?_
            refine lv_topi (fun y_5 ey_5 => ?_)
            have j_5 : y_5.toInt = (ft i.toNatClampNeg).toInt := congrArg Int32.toInt ey_5
            refine lv_istore (lv' := [(4, .int y_5), (5, .int i), (0, .ref q_t), (1, .ref h0), (2, .int p0), (3, .int p1)]) hx hb dX2_gather_38 hl (by decide) rfl (fun ls hl => ?_)
            refine lv_aload_n hx hb dX2_gather_40 rfl (lv_at hl 2 rfl) ?_
            refine lv_aload_n hx hb dX2_gather_41 rfl (lv_at hl 3 rfl) ?_
            refine lv_iload hx hb dX2_gather_42 (lv_at hl 1 rfl) ?_
            obtain ⟨mua, L0, hH, hva, hsa, c0, cK, eL, hba⟩ := LP1_h3
            obtain ⟨w0, w6, wK, mub, hvb, hsb, hbb⟩ := mj_ok_vs (hok i.toNatClampNeg (by omega)) t0 (by omega) c1
            have hpq := mj_pq_le ff ft p0.toInt p1.toInt i.toNatClampNeg
            obtain ⟨hPc, hDc, hFc, hCc⟩ := kx_pre (wc := [kx_2 q_t q_row q_joined q_from q_to q_size q_lossOf q_lessBy q_value q_number nodes here, kx_a q_size cyI 319 fs, kx_a q_lossOf cyI 319 fo, kx_a q_value cyI 1914 uv, kx_a q_number cyI 1914 un, kx_3 h0 a_v a_n zz zl zb, kx_a a_v cyI 12 yv, kx_a a_n cyI 12 yn]) hP hD hS hA [0, 3, 4, 5, 6, 9, 7, 8] (by decide) rfl
            have hKc := hK
            refine va_callv (va_runV (As := [.ref h0, .int i]) (rest := []) ⟨hx, hb, hml, hown, hts⟩ (c_X2_joinNode_x l dC dI q_t q_row q_joined q_from q_to q_size q_lossOf q_lessBy q_value q_number nodes here h0 a_v a_n cyI zz zl zb yv yn fs fo uv un mua mub i H.size (by omega) (by omega) (by omega) (by omega) w0 w6 hva hvb (fun v => by have h1 := hba v; have h2 := hbb v; omega)) (cwV 2 hts gX2_gather_X2_joinNode rfl rfl rfl (by decide +kernel) ⟨Nat.le_of_ble_eq_true rfl, Nat.le_of_ble_eq_true rfl⟩) ⟨fun a U g mk q => by obtain ⟨q0, q1, qP, qK, qD⟩ := q; exact ⟨q0, q1, qP, va_K.moved (u := U) (U := U.calling g mk a) (Vm.Alike.refl U.vm) qK, qD⟩, va_recv hKc hPc (ci := 2) (q0 := 0) rfl rfl, fun U hU hW => ⟨rfl, by rw [hU], by rw [hU]; exact hPc, va_K.moved hW.alike hKc, hDc.weaken (fun _ _ _ _ => trivial)⟩⟩ rfl rfl hl.1 rfl (lv_room (Nat.le_of_ble_eq_true rfl)) dX2_gather_44 ⟨Nat.le_of_ble_eq_true rfl, Nat.le_of_ble_eq_true rfl⟩) hS (fun q _ h => hFc q h) hFc (fun u t H1 locs ht hvm w_6 hB hz1 hk1 hS => ?_)
            obtain ⟨o_7, o_8, o_9, o_10⟩ := u
            dsimp only at w_6 hB
            obtain ⟨hP1, hK1, hD1⟩ := hB
            rw [ht] at hP1
            have hK1 := va_K.moved hvm.symm hK1
            obtain ⟨hP, hD⟩ := kx_join (w2 := [kx_a q_from cyI 319 ff, kx_a q_to cyI 319 ft, kx_2 q_t q_row q_joined q_from q_to q_size q_lossOf q_lessBy q_value q_number nodes here, kx_a q_size cyI 319 fs, kx_a q_lossOf cyI 319 fo, kx_a q_value cyI 1914 uv, kx_a q_number cyI 1914 un, kx_3 h0 a_v a_n o_7 o_8 zb, kx_a a_v cyI 12 o_9, kx_a a_n cyI 12 o_10]) hP hD hP1 hD1 hk1 hFc [0, 3, 4, 5, 6, 9, 7, 8] [1, 2] hCc rfl (by decide) (by decide)
            clear hP1 hD1 hK1 hk1 hz1 hFc hDc hPc hKc hCc
            generalize H1 = H at hP hS ⊢
            have w_6 : mj_vs o_9 o_10 0 o_7.toNatClampNeg (fun w => mua w + mub w) ∧ o_8 = zl + fo i.toNatClampNeg ∧ 0 ≤ o_7.toInt ∧ o_7.toInt ≤ zz.toInt + (fs i.toNatClampNeg).toInt := w_6
            refine lv_aload_n hx hb dX2_gather_47 rfl (lv_at hl 3 rfl) ?_
            refine lv_aload_n hx hb dX2_gather_48 rfl (lv_at hl 2 rfl) ?_
            refine va_get (D := (dC, dI)) (ci := 2) (v := .int here) (C := RX2) (T := TX2) (N := 11) hx hb hts hi_2 hown hK hP 2 rfl rfl 10 (by decide) hf_85 (fun _ h9 => h9) rfl dX2_gather_49 ?_
            obtain ⟨hPc, hDc, hFc, hCc⟩ := kx_pre (wc := [kx_3 h0 a_v a_n o_7 o_8 zb, kx_a a_v cyI 12 o_9, kx_a a_n cyI 12 o_10]) hP hD hS hA [7, 8, 9] (by decide) rfl
            have hKc := hK
            refine va_callv (va_runV (As := [.int here]) (rest := []) ⟨hx, hb, hml, hown, hts⟩ (c_X3_cancel_x l dC dI h0 a_v a_n cyI o_7 o_8 zb o_9 o_10 (fun w => mua w + mub w) here H.size (by omega) (by omega) (by omega) (by omega) w_6.1 (fun v => by have h1 := hba v; have h2 := hbb v; (try dsimp only); omega)) (cwV 1 hts gX2_gather_X3_cancel rfl rfl rfl (by decide +kernel) ⟨Nat.le_of_ble_eq_true rfl, Nat.le_of_ble_eq_true rfl⟩) ⟨fun a U g mk q => by obtain ⟨q0, q1, qP, qK, qD⟩ := q; exact ⟨q0, q1, qP, va_K.moved (u := U) (U := U.calling g mk a) (Vm.Alike.refl U.vm) qK, qD⟩, va_recv hKc hPc (ci := 3) (q0 := 0) rfl rfl, fun U hU hW => ⟨rfl, by rw [hU], by rw [hU]; exact hPc, va_K.moved hW.alike hKc, hDc.weaken (fun _ _ _ _ => trivial)⟩⟩ rfl rfl hl.1 rfl (lv_room (Nat.le_of_ble_eq_true rfl)) dX2_gather_52 ⟨Nat.le_of_ble_eq_true rfl, Nat.le_of_ble_eq_true rfl⟩) hS (fun q _ h => hFc q h) hFc (fun u t H1 locs ht hvm w_11 hB hz1 hk1 hS => ?_)
            obtain ⟨o_12, o_13, o_14, o_15, o_16, o_17⟩ := u
            dsimp only at w_11 hB
            obtain ⟨hP1, hK1, hD1⟩ := hB
            rw [ht] at hP1
            have hK1 := va_K.moved hvm.symm hK1
            obtain ⟨hP, hD⟩ := kx_join (w2 := [kx_a q_from cyI 319 ff, kx_a q_to cyI 319 ft, kx_2 q_t q_row q_joined q_from q_to q_size q_lossOf q_lessBy q_value q_number nodes here, kx_a q_size cyI 319 fs, kx_a q_lossOf cyI 319 fo, kx_a q_value cyI 1914 uv, kx_a q_number cyI 1914 un, kx_3 h0 a_v a_n o_12 o_13 o_14, kx_a a_v cyI 12 o_15, kx_a a_n cyI 12 o_16]) hP hD hP1 hD1 hk1 hFc [7, 8, 9] [0, 1, 2, 3, 4, 5, 6] hCc rfl (by decide) (by decide)
            clear hP1 hD1 hK1 hk1 hz1 hFc hDc hPc hKc hCc
            generalize H1 = H at hP hS ⊢
            have w_11 : mj_can here.toNatClampNeg (fun w => mua w + mub w) o_17 o_14 ∧ o_13 = o_8 + o_14 ∧ 0 ≤ o_12.toInt ∧ o_12.toInt ≤ here.toInt ∧ mj_vs o_15 o_16 0 o_12.toNatClampNeg o_17 ∧ mj_srt o_15 o_16 0 o_12.toNatClampNeg ∧ 0 ≤ o_14.toInt := w_11
            obtain ⟨x_18, ex_18⟩ : ∃ y : Int32, y = i + 1 := ⟨_, rfl⟩
            have i_18 : x_18.toInt = i.toInt + 1 := ki_add ex_18 rfl rfl (om_10 LP1_h0) (by omega)
            refine lv_iinc (v := x_18) (lv' := [(5, .int x_18), (4, .int y_5), (0, .ref q_t), (1, .ref h0), (2, .int p0), (3, .int p1)]) hx hb dX2_gather_55 hl (k := 1) rfl (by rw [ex_18]; rfl) (by decide) rfl (fun ls hl => ?_)
            refine lv_goto (tgt := 10) hx hb dX2_gather_58 (by decide) ?_
            have hP : va_P (dC, dI) vwCl [kx_2 q_t q_row q_joined q_from q_to q_size q_lossOf q_lessBy q_value q_number nodes here, kx_a q_from cyI 319 ff, kx_a q_to cyI 319 ft, kx_a q_size cyI 319 fs, kx_a q_lossOf cyI 319 fo, kx_a q_value cyI 1914 uv, kx_a q_number cyI 1914 un, kx_a a_v cyI 12 o_15, kx_a a_n cyI 12 o_16, kx_3 h0 a_v a_n o_12 o_13 o_14] _ := hP.sub [2, 0, 1, 3, 4, 5, 6, 8, 9, 7] rfl
            have hD : va_D A [kx_2 q_t q_row q_joined q_from q_to q_size q_lossOf q_lessBy q_value q_number nodes here, kx_a q_from cyI 319 ff, kx_a q_to cyI 319 ft, kx_a q_size cyI 319 fs, kx_a q_lossOf cyI 319 fo, kx_a q_value cyI 1914 uv, kx_a q_number cyI 1914 un, kx_a a_v cyI 12 o_15, kx_a a_n cyI 12 o_16, kx_3 h0 a_v a_n o_12 o_13 o_14] := hD.sub [2, 0, 1, 3, 4, 5, 6, 8, 9, 7] (by decide) rfl
            have n_19 := ki_nat x_18 rfl (om_31 LP1_h0 i_18)
            have isp : mj_isp ff ft p0.toInt p1.toInt i.toNatClampNeg := by unfold mj_isp; omega
            have st2 : mj_pb ff ft p0.toInt p1.toInt x_18.toNatClampNeg = (ft i.toNatClampNeg).toInt ∧ mj_pq ff ft p0.toInt p1.toInt x_18.toNatClampNeg = mj_pq ff ft p0.toInt p1.toInt i.toNatClampNeg + 1 := mj_pbq_yes isp (by omega)
            exact ih1 x_18 y_5 o_12 o_13 o_14 o_15 o_16 (om_31 LP1_h0 i_18) (om_47 i_2 i_18) (by rw [st2.1]; omega) (mj_GA_step hH (by omega) isp rfl w0 w6 hvb w_11.1 eL w_6.2.1 w_11.2.1 w_11.2.2.2.2.1 w_11.2.2.2.2.2.1 (by omega) (by omega) hba hbb st2.2) (om_8 w_11.2.2.1) (om_456 k1 w_11.2.2.2.1) (om_mu hn1 (om_5 i_18) (om_6 i_2)) _ _ hP hD hS ls (lv_sub hl [0, 1, 2, 3, 4, 5] rfl)
        · have w_3 : (¬ (ff i.toNatClampNeg).toInt = nxt.toInt ∨ p1.toInt < (ft i.toNatClampNeg).toInt) := w_3
          refine lv_if_eq (tgt := 55) hx hb dX2_gather_28 (by decide) (fun c_20 => ?_) (fun c_20 => ?_)
          · obtain ⟨x_21, ex_21⟩ : ∃ y : Int32, y = i + 1 := ⟨_, rfl⟩
            have i_21 : x_21.toInt = i.toInt + 1 := ki_add ex_21 rfl rfl (om_10 LP1_h0) (om_322 c0 LP1_h1)
            refine lv_iinc (v := x_21) (lv' := [(5, .int x_21), (4, .int nxt), (0, .ref q_t), (1, .ref h0), (2, .int p0), (3, .int p1)]) hx hb dX2_gather_55 hl (k := 0) rfl (by rw [ex_21]; rfl) (by decide) rfl (fun ls hl => ?_)
            refine lv_goto (tgt := 10) hx hb dX2_gather_58 (by decide) ?_
            have n_22 := ki_nat x_21 rfl (om_31 LP1_h0 i_21)
            have st2 : mj_pb ff ft p0.toInt p1.toInt x_21.toNatClampNeg = mj_pb ff ft p0.toInt p1.toInt i.toNatClampNeg ∧ mj_pq ff ft p0.toInt p1.toInt x_21.toNatClampNeg = mj_pq ff ft p0.toInt p1.toInt i.toNatClampNeg := mj_pbq_no (fun h => by unfold mj_isp at h; omega) (by omega)
            exact ih1 x_21 nxt zz zl zb yv yn (om_31 LP1_h0 i_21) (om_47 i_2 i_21) (by rw [st2.1]; omega) (by rw [st2.2]; exact LP1_h3) (om_8 LP1_h4) (om_459 LP1_h5) (om_mu hn1 (om_5 i_21) (om_6 i_2)) _ _ hP hD hS ls (lv_sub hl [0, 1, 2, 3, 4, 5] rfl)
          · exact absurd c_20 (by decide)
  have k_23 : (0 : Int32).toInt = 0 := rfl
  have k_24 : (0 : Int32).toInt = 0 := rfl
  have k_25 : (0 : Int32).toInt = 0 := rfl
  have k_26 : (0 : Int32).toInt = 0 := rfl
  exact LP1 ((nodes.toInt - 0 : Int).toNat + 1) 0 p0 0 0 0 fv fn om_32 (om_8 b0) rfl (mj_GA_0 _ _ _ _ _ _ _ _ _ _ _ rfl) om_32 om_320 (Nat.lt_succ_self _) _ _ hP hD hS ls (lv_sub hl [0, 1, 2, 3, 4, 5] rfl)



abbrev cL_law : ByteArray := code


def dt_cL_law_0 : List (Nat × Nat × Nat × Nat) := [(0, 187, 2, 8), (3, 89, 0, 0), (4, 183, 2, 26), (7, 76, 0, 0), (8, 187, 2, 27), (11, 89, 0, 0), (12, 183, 2, 29), (15, 77, 0, 0), (16, 4, 0, 0)]
theorem da_cL_law_0 : fw dt_cL_law_0 0 cL_law.data.toList = true := by decide +kernel
theorem dL_law_0 : decode cL_law 0 = .ok (.new 8, 3) := fo_187 (fw_get da_cL_law_0 0 rfl)
theorem dL_law_3 : decode cL_law 3 = .ok (.dup, 1) := fo_89 (fw_get da_cL_law_0 1 rfl)
theorem dL_law_4 : decode cL_law 4 = .ok (.invokespecial 26, 3) := fo_183 (fw_get da_cL_law_0 2 rfl)
theorem dL_law_7 : decode cL_law 7 = .ok (.astore_n 1, 1) := fo_76 (fw_get da_cL_law_0 3 rfl)
theorem dL_law_8 : decode cL_law 8 = .ok (.new 27, 3) := fo_187 (fw_get da_cL_law_0 4 rfl)
theorem dL_law_11 : decode cL_law 11 = .ok (.dup, 1) := fo_89 (fw_get da_cL_law_0 5 rfl)
theorem dL_law_12 : decode cL_law 12 = .ok (.invokespecial 29, 3) := fo_183 (fw_get da_cL_law_0 6 rfl)
theorem dL_law_15 : decode cL_law 15 = .ok (.astore_n 2, 1) := fo_77 (fw_get da_cL_law_0 7 rfl)
theorem dL_law_16 : decode cL_law 16 = .ok (.iconst 1, 1) := fo_4 (fw_get da_cL_law_0 8 rfl)
theorem dL_law_17 : decode cL_law 17 = .ok (.newarray .long, 2) := by decide +kernel
def dt_cL_law_1 : List (Nat × Nat × Nat × Nat) := [(19, 78, 0, 0), (20, 3, 0, 0), (21, 54, 1, 4), (23, 21, 1, 4), (25, 42, 0, 0), (26, 190, 0, 0), (27, 16, 1, 8), (29, 100, 0, 0), (30, 163, 2, 2264), (33, 42, 0, 0), (34, 21, 1, 4), (36, 46, 0, 0), (37, 16, 1, 63), (39, 126, 0, 0)]
theorem da_cL_law_1 : fw dt_cL_law_1 0 cL_law.data.toList = true := by decide +kernel
theorem dL_law_19 : decode cL_law 19 = .ok (.astore_n 3, 1) := fo_78 (fw_get da_cL_law_1 0 rfl)
theorem dL_law_20 : decode cL_law 20 = .ok (.iconst 0, 1) := fo_3 (fw_get da_cL_law_1 1 rfl)
theorem dL_law_21 : decode cL_law 21 = .ok (.istore 4, 2) := fo_54 (fw_get da_cL_law_1 2 rfl)
theorem dL_law_23 : decode cL_law 23 = .ok (.iload 4, 2) := fo_21 (fw_get da_cL_law_1 3 rfl)
theorem dL_law_25 : decode cL_law 25 = .ok (.aload_n 0, 1) := fo_42 (fw_get da_cL_law_1 4 rfl)
theorem dL_law_26 : decode cL_law 26 = .ok (.arraylength, 1) := fo_190 (fw_get da_cL_law_1 5 rfl)
theorem dL_law_27 : decode cL_law 27 = .ok (.bipush 8, 2) := fo_16 (fw_get da_cL_law_1 6 rfl) (by decide +kernel)
theorem dL_law_29 : decode cL_law 29 = .ok (.isub, 1) := fo_100 (fw_get da_cL_law_1 7 rfl)
theorem dL_law_30 : decode cL_law 30 = .ok (.if_icmp .gt 2264, 3) := fo_163 (fw_get da_cL_law_1 8 rfl) (by decide +kernel)
theorem dL_law_33 : decode cL_law 33 = .ok (.aload_n 0, 1) := fo_42 (fw_get da_cL_law_1 9 rfl)
theorem dL_law_34 : decode cL_law 34 = .ok (.iload 4, 2) := fo_21 (fw_get da_cL_law_1 10 rfl)
theorem dL_law_36 : decode cL_law 36 = .ok (.iaload, 1) := fo_46 (fw_get da_cL_law_1 11 rfl)
theorem dL_law_37 : decode cL_law 37 = .ok (.bipush 63, 2) := fo_16 (fw_get da_cL_law_1 12 rfl) (by decide +kernel)
theorem dL_law_39 : decode cL_law 39 = .ok (.iand, 1) := fo_126 (fw_get da_cL_law_1 13 rfl)
theorem dL_law_40 : decode cL_law 40 = .ok (.tableswitch 2248 0 43 #[192, 229, 254, 279, 316, 365, 402, 439, 476, 501, 529, 578, 615, 628, 665, 729, 766, 803, 852, 877, 914, 975, 1024, 1088, 1137, 1174, 1235, 1325, 1386, 1447, 1484, 1533, 1620, 1721, 1782, 1807, 1844, 1881, 1894, 1955, 2028, 2101, 2162, 2223], 192) := by decide +kernel
def dt_cL_law_2 : List (Nat × Nat × Nat × Nat) := [(232, 43, 0, 0), (233, 42, 0, 0), (234, 21, 1, 4), (236, 4, 0, 0), (237, 96, 0, 0), (238, 46, 0, 0), (239, 42, 0, 0), (240, 21, 1, 4), (242, 5, 0, 0), (243, 96, 0, 0), (244, 46, 0, 0), (245, 182, 2, 30), (248, 87, 0, 0), (249, 44, 0, 0), (250, 42, 0, 0), (251, 21, 1, 4), (253, 4, 0, 0), (254, 96, 0, 0), (255, 46, 0, 0), (256, 42, 0, 0)]
theorem da_cL_law_2 : fw dt_cL_law_2 0 cL_law.data.toList = true := by decide +kernel
theorem dL_law_232 : decode cL_law 232 = .ok (.aload_n 1, 1) := fo_43 (fw_get da_cL_law_2 0 rfl)
theorem dL_law_233 : decode cL_law 233 = .ok (.aload_n 0, 1) := fo_42 (fw_get da_cL_law_2 1 rfl)
theorem dL_law_234 : decode cL_law 234 = .ok (.iload 4, 2) := fo_21 (fw_get da_cL_law_2 2 rfl)
theorem dL_law_236 : decode cL_law 236 = .ok (.iconst 1, 1) := fo_4 (fw_get da_cL_law_2 3 rfl)
theorem dL_law_237 : decode cL_law 237 = .ok (.iadd, 1) := fo_96 (fw_get da_cL_law_2 4 rfl)
theorem dL_law_238 : decode cL_law 238 = .ok (.iaload, 1) := fo_46 (fw_get da_cL_law_2 5 rfl)
theorem dL_law_239 : decode cL_law 239 = .ok (.aload_n 0, 1) := fo_42 (fw_get da_cL_law_2 6 rfl)
theorem dL_law_240 : decode cL_law 240 = .ok (.iload 4, 2) := fo_21 (fw_get da_cL_law_2 7 rfl)
theorem dL_law_242 : decode cL_law 242 = .ok (.iconst 2, 1) := fo_5 (fw_get da_cL_law_2 8 rfl)
theorem dL_law_243 : decode cL_law 243 = .ok (.iadd, 1) := fo_96 (fw_get da_cL_law_2 9 rfl)
theorem dL_law_244 : decode cL_law 244 = .ok (.iaload, 1) := fo_46 (fw_get da_cL_law_2 10 rfl)
theorem dL_law_245 : decode cL_law 245 = .ok (.invokevirtual 30, 3) := fo_182 (fw_get da_cL_law_2 11 rfl)
theorem dL_law_248 : decode cL_law 248 = .ok (.pop, 1) := fo_87 (fw_get da_cL_law_2 12 rfl)
theorem dL_law_249 : decode cL_law 249 = .ok (.aload_n 2, 1) := fo_44 (fw_get da_cL_law_2 13 rfl)
theorem dL_law_250 : decode cL_law 250 = .ok (.aload_n 0, 1) := fo_42 (fw_get da_cL_law_2 14 rfl)
theorem dL_law_251 : decode cL_law 251 = .ok (.iload 4, 2) := fo_21 (fw_get da_cL_law_2 15 rfl)
theorem dL_law_253 : decode cL_law 253 = .ok (.iconst 1, 1) := fo_4 (fw_get da_cL_law_2 16 rfl)
theorem dL_law_254 : decode cL_law 254 = .ok (.iadd, 1) := fo_96 (fw_get da_cL_law_2 17 rfl)
theorem dL_law_255 : decode cL_law 255 = .ok (.iaload, 1) := fo_46 (fw_get da_cL_law_2 18 rfl)
theorem dL_law_256 : decode cL_law 256 = .ok (.aload_n 0, 1) := fo_42 (fw_get da_cL_law_2 19 rfl)
def dt_cL_law_3 : List (Nat × Nat × Nat × Nat) := [(257, 21, 1, 4), (259, 5, 0, 0), (260, 96, 0, 0), (261, 46, 0, 0), (262, 182, 2, 34), (265, 87, 0, 0), (266, 167, 2, 2022), (269, 43, 0, 0), (270, 42, 0, 0), (271, 21, 1, 4), (273, 4, 0, 0), (274, 96, 0, 0), (275, 46, 0, 0), (276, 182, 2, 35), (279, 87, 0, 0), (280, 44, 0, 0), (281, 42, 0, 0), (282, 21, 1, 4), (284, 4, 0, 0), (285, 96, 0, 0)]
theorem da_cL_law_3 : fw dt_cL_law_3 0 cL_law.data.toList = true := by decide +kernel
theorem dL_law_257 : decode cL_law 257 = .ok (.iload 4, 2) := fo_21 (fw_get da_cL_law_3 0 rfl)
theorem dL_law_259 : decode cL_law 259 = .ok (.iconst 2, 1) := fo_5 (fw_get da_cL_law_3 1 rfl)
theorem dL_law_260 : decode cL_law 260 = .ok (.iadd, 1) := fo_96 (fw_get da_cL_law_3 2 rfl)
theorem dL_law_261 : decode cL_law 261 = .ok (.iaload, 1) := fo_46 (fw_get da_cL_law_3 3 rfl)
theorem dL_law_262 : decode cL_law 262 = .ok (.invokevirtual 34, 3) := fo_182 (fw_get da_cL_law_3 4 rfl)
theorem dL_law_265 : decode cL_law 265 = .ok (.pop, 1) := fo_87 (fw_get da_cL_law_3 5 rfl)
theorem dL_law_266 : decode cL_law 266 = .ok (.goto 2022, 3) := fo_167 (fw_get da_cL_law_3 6 rfl) (by decide +kernel)
theorem dL_law_269 : decode cL_law 269 = .ok (.aload_n 1, 1) := fo_43 (fw_get da_cL_law_3 7 rfl)
theorem dL_law_270 : decode cL_law 270 = .ok (.aload_n 0, 1) := fo_42 (fw_get da_cL_law_3 8 rfl)
theorem dL_law_271 : decode cL_law 271 = .ok (.iload 4, 2) := fo_21 (fw_get da_cL_law_3 9 rfl)
theorem dL_law_273 : decode cL_law 273 = .ok (.iconst 1, 1) := fo_4 (fw_get da_cL_law_3 10 rfl)
theorem dL_law_274 : decode cL_law 274 = .ok (.iadd, 1) := fo_96 (fw_get da_cL_law_3 11 rfl)
theorem dL_law_275 : decode cL_law 275 = .ok (.iaload, 1) := fo_46 (fw_get da_cL_law_3 12 rfl)
theorem dL_law_276 : decode cL_law 276 = .ok (.invokevirtual 35, 3) := fo_182 (fw_get da_cL_law_3 13 rfl)
theorem dL_law_279 : decode cL_law 279 = .ok (.pop, 1) := fo_87 (fw_get da_cL_law_3 14 rfl)
theorem dL_law_280 : decode cL_law 280 = .ok (.aload_n 2, 1) := fo_44 (fw_get da_cL_law_3 15 rfl)
theorem dL_law_281 : decode cL_law 281 = .ok (.aload_n 0, 1) := fo_42 (fw_get da_cL_law_3 16 rfl)
theorem dL_law_282 : decode cL_law 282 = .ok (.iload 4, 2) := fo_21 (fw_get da_cL_law_3 17 rfl)
theorem dL_law_284 : decode cL_law 284 = .ok (.iconst 1, 1) := fo_4 (fw_get da_cL_law_3 18 rfl)
theorem dL_law_285 : decode cL_law 285 = .ok (.iadd, 1) := fo_96 (fw_get da_cL_law_3 19 rfl)
def dt_cL_law_4 : List (Nat × Nat × Nat × Nat) := [(286, 46, 0, 0), (287, 182, 2, 38), (290, 87, 0, 0), (291, 167, 2, 1997), (294, 43, 0, 0), (295, 42, 0, 0), (296, 21, 1, 4), (298, 4, 0, 0), (299, 96, 0, 0), (300, 46, 0, 0), (301, 182, 2, 39), (304, 87, 0, 0), (305, 44, 0, 0), (306, 42, 0, 0), (307, 21, 1, 4), (309, 4, 0, 0), (310, 96, 0, 0), (311, 46, 0, 0), (312, 182, 2, 42), (315, 87, 0, 0)]
theorem da_cL_law_4 : fw dt_cL_law_4 0 cL_law.data.toList = true := by decide +kernel
theorem dL_law_286 : decode cL_law 286 = .ok (.iaload, 1) := fo_46 (fw_get da_cL_law_4 0 rfl)
theorem dL_law_287 : decode cL_law 287 = .ok (.invokevirtual 38, 3) := fo_182 (fw_get da_cL_law_4 1 rfl)
theorem dL_law_290 : decode cL_law 290 = .ok (.pop, 1) := fo_87 (fw_get da_cL_law_4 2 rfl)
theorem dL_law_291 : decode cL_law 291 = .ok (.goto 1997, 3) := fo_167 (fw_get da_cL_law_4 3 rfl) (by decide +kernel)
theorem dL_law_294 : decode cL_law 294 = .ok (.aload_n 1, 1) := fo_43 (fw_get da_cL_law_4 4 rfl)
theorem dL_law_295 : decode cL_law 295 = .ok (.aload_n 0, 1) := fo_42 (fw_get da_cL_law_4 5 rfl)
theorem dL_law_296 : decode cL_law 296 = .ok (.iload 4, 2) := fo_21 (fw_get da_cL_law_4 6 rfl)
theorem dL_law_298 : decode cL_law 298 = .ok (.iconst 1, 1) := fo_4 (fw_get da_cL_law_4 7 rfl)
theorem dL_law_299 : decode cL_law 299 = .ok (.iadd, 1) := fo_96 (fw_get da_cL_law_4 8 rfl)
theorem dL_law_300 : decode cL_law 300 = .ok (.iaload, 1) := fo_46 (fw_get da_cL_law_4 9 rfl)
theorem dL_law_301 : decode cL_law 301 = .ok (.invokevirtual 39, 3) := fo_182 (fw_get da_cL_law_4 10 rfl)
theorem dL_law_304 : decode cL_law 304 = .ok (.pop, 1) := fo_87 (fw_get da_cL_law_4 11 rfl)
theorem dL_law_305 : decode cL_law 305 = .ok (.aload_n 2, 1) := fo_44 (fw_get da_cL_law_4 12 rfl)
theorem dL_law_306 : decode cL_law 306 = .ok (.aload_n 0, 1) := fo_42 (fw_get da_cL_law_4 13 rfl)
theorem dL_law_307 : decode cL_law 307 = .ok (.iload 4, 2) := fo_21 (fw_get da_cL_law_4 14 rfl)
theorem dL_law_309 : decode cL_law 309 = .ok (.iconst 1, 1) := fo_4 (fw_get da_cL_law_4 15 rfl)
theorem dL_law_310 : decode cL_law 310 = .ok (.iadd, 1) := fo_96 (fw_get da_cL_law_4 16 rfl)
theorem dL_law_311 : decode cL_law 311 = .ok (.iaload, 1) := fo_46 (fw_get da_cL_law_4 17 rfl)
theorem dL_law_312 : decode cL_law 312 = .ok (.invokevirtual 42, 3) := fo_182 (fw_get da_cL_law_4 18 rfl)
theorem dL_law_315 : decode cL_law 315 = .ok (.pop, 1) := fo_87 (fw_get da_cL_law_4 19 rfl)
def dt_cL_law_5 : List (Nat × Nat × Nat × Nat) := [(316, 167, 2, 1972), (319, 43, 0, 0), (320, 42, 0, 0), (321, 21, 1, 4), (323, 4, 0, 0), (324, 96, 0, 0), (325, 46, 0, 0), (326, 42, 0, 0), (327, 21, 1, 4), (329, 5, 0, 0), (330, 96, 0, 0), (331, 46, 0, 0), (332, 182, 2, 43), (335, 87, 0, 0), (336, 44, 0, 0), (337, 42, 0, 0), (338, 21, 1, 4), (340, 4, 0, 0), (341, 96, 0, 0), (342, 46, 0, 0)]
theorem da_cL_law_5 : fw dt_cL_law_5 0 cL_law.data.toList = true := by decide +kernel
theorem dL_law_316 : decode cL_law 316 = .ok (.goto 1972, 3) := fo_167 (fw_get da_cL_law_5 0 rfl) (by decide +kernel)
theorem dL_law_319 : decode cL_law 319 = .ok (.aload_n 1, 1) := fo_43 (fw_get da_cL_law_5 1 rfl)
theorem dL_law_320 : decode cL_law 320 = .ok (.aload_n 0, 1) := fo_42 (fw_get da_cL_law_5 2 rfl)
theorem dL_law_321 : decode cL_law 321 = .ok (.iload 4, 2) := fo_21 (fw_get da_cL_law_5 3 rfl)
theorem dL_law_323 : decode cL_law 323 = .ok (.iconst 1, 1) := fo_4 (fw_get da_cL_law_5 4 rfl)
theorem dL_law_324 : decode cL_law 324 = .ok (.iadd, 1) := fo_96 (fw_get da_cL_law_5 5 rfl)
theorem dL_law_325 : decode cL_law 325 = .ok (.iaload, 1) := fo_46 (fw_get da_cL_law_5 6 rfl)
theorem dL_law_326 : decode cL_law 326 = .ok (.aload_n 0, 1) := fo_42 (fw_get da_cL_law_5 7 rfl)
theorem dL_law_327 : decode cL_law 327 = .ok (.iload 4, 2) := fo_21 (fw_get da_cL_law_5 8 rfl)
theorem dL_law_329 : decode cL_law 329 = .ok (.iconst 2, 1) := fo_5 (fw_get da_cL_law_5 9 rfl)
theorem dL_law_330 : decode cL_law 330 = .ok (.iadd, 1) := fo_96 (fw_get da_cL_law_5 10 rfl)
theorem dL_law_331 : decode cL_law 331 = .ok (.iaload, 1) := fo_46 (fw_get da_cL_law_5 11 rfl)
theorem dL_law_332 : decode cL_law 332 = .ok (.invokevirtual 43, 3) := fo_182 (fw_get da_cL_law_5 12 rfl)
theorem dL_law_335 : decode cL_law 335 = .ok (.pop, 1) := fo_87 (fw_get da_cL_law_5 13 rfl)
theorem dL_law_336 : decode cL_law 336 = .ok (.aload_n 2, 1) := fo_44 (fw_get da_cL_law_5 14 rfl)
theorem dL_law_337 : decode cL_law 337 = .ok (.aload_n 0, 1) := fo_42 (fw_get da_cL_law_5 15 rfl)
theorem dL_law_338 : decode cL_law 338 = .ok (.iload 4, 2) := fo_21 (fw_get da_cL_law_5 16 rfl)
theorem dL_law_340 : decode cL_law 340 = .ok (.iconst 1, 1) := fo_4 (fw_get da_cL_law_5 17 rfl)
theorem dL_law_341 : decode cL_law 341 = .ok (.iadd, 1) := fo_96 (fw_get da_cL_law_5 18 rfl)
theorem dL_law_342 : decode cL_law 342 = .ok (.iaload, 1) := fo_46 (fw_get da_cL_law_5 19 rfl)
def dt_cL_law_6 : List (Nat × Nat × Nat × Nat) := [(343, 42, 0, 0), (344, 21, 1, 4), (346, 5, 0, 0), (347, 96, 0, 0), (348, 46, 0, 0), (349, 182, 2, 46), (352, 87, 0, 0), (353, 167, 2, 1935), (356, 43, 0, 0), (357, 42, 0, 0), (358, 21, 1, 4), (360, 4, 0, 0), (361, 96, 0, 0), (362, 46, 0, 0), (363, 42, 0, 0), (364, 21, 1, 4), (366, 5, 0, 0), (367, 96, 0, 0), (368, 46, 0, 0), (369, 42, 0, 0)]
theorem da_cL_law_6 : fw dt_cL_law_6 0 cL_law.data.toList = true := by decide +kernel
theorem dL_law_343 : decode cL_law 343 = .ok (.aload_n 0, 1) := fo_42 (fw_get da_cL_law_6 0 rfl)
theorem dL_law_344 : decode cL_law 344 = .ok (.iload 4, 2) := fo_21 (fw_get da_cL_law_6 1 rfl)
theorem dL_law_346 : decode cL_law 346 = .ok (.iconst 2, 1) := fo_5 (fw_get da_cL_law_6 2 rfl)
theorem dL_law_347 : decode cL_law 347 = .ok (.iadd, 1) := fo_96 (fw_get da_cL_law_6 3 rfl)
theorem dL_law_348 : decode cL_law 348 = .ok (.iaload, 1) := fo_46 (fw_get da_cL_law_6 4 rfl)
theorem dL_law_349 : decode cL_law 349 = .ok (.invokevirtual 46, 3) := fo_182 (fw_get da_cL_law_6 5 rfl)
theorem dL_law_352 : decode cL_law 352 = .ok (.pop, 1) := fo_87 (fw_get da_cL_law_6 6 rfl)
theorem dL_law_353 : decode cL_law 353 = .ok (.goto 1935, 3) := fo_167 (fw_get da_cL_law_6 7 rfl) (by decide +kernel)
theorem dL_law_356 : decode cL_law 356 = .ok (.aload_n 1, 1) := fo_43 (fw_get da_cL_law_6 8 rfl)
theorem dL_law_357 : decode cL_law 357 = .ok (.aload_n 0, 1) := fo_42 (fw_get da_cL_law_6 9 rfl)
theorem dL_law_358 : decode cL_law 358 = .ok (.iload 4, 2) := fo_21 (fw_get da_cL_law_6 10 rfl)
theorem dL_law_360 : decode cL_law 360 = .ok (.iconst 1, 1) := fo_4 (fw_get da_cL_law_6 11 rfl)
theorem dL_law_361 : decode cL_law 361 = .ok (.iadd, 1) := fo_96 (fw_get da_cL_law_6 12 rfl)
theorem dL_law_362 : decode cL_law 362 = .ok (.iaload, 1) := fo_46 (fw_get da_cL_law_6 13 rfl)
theorem dL_law_363 : decode cL_law 363 = .ok (.aload_n 0, 1) := fo_42 (fw_get da_cL_law_6 14 rfl)
theorem dL_law_364 : decode cL_law 364 = .ok (.iload 4, 2) := fo_21 (fw_get da_cL_law_6 15 rfl)
theorem dL_law_366 : decode cL_law 366 = .ok (.iconst 2, 1) := fo_5 (fw_get da_cL_law_6 16 rfl)
theorem dL_law_367 : decode cL_law 367 = .ok (.iadd, 1) := fo_96 (fw_get da_cL_law_6 17 rfl)
theorem dL_law_368 : decode cL_law 368 = .ok (.iaload, 1) := fo_46 (fw_get da_cL_law_6 18 rfl)
theorem dL_law_369 : decode cL_law 369 = .ok (.aload_n 0, 1) := fo_42 (fw_get da_cL_law_6 19 rfl)
def dt_cL_law_7 : List (Nat × Nat × Nat × Nat) := [(370, 21, 1, 4), (372, 6, 0, 0), (373, 96, 0, 0), (374, 46, 0, 0), (375, 182, 2, 47), (378, 87, 0, 0), (379, 44, 0, 0), (380, 42, 0, 0), (381, 21, 1, 4), (383, 4, 0, 0), (384, 96, 0, 0), (385, 46, 0, 0), (386, 42, 0, 0), (387, 21, 1, 4), (389, 5, 0, 0), (390, 96, 0, 0), (391, 46, 0, 0), (392, 42, 0, 0), (393, 21, 1, 4), (395, 6, 0, 0)]
theorem da_cL_law_7 : fw dt_cL_law_7 0 cL_law.data.toList = true := by decide +kernel
theorem dL_law_370 : decode cL_law 370 = .ok (.iload 4, 2) := fo_21 (fw_get da_cL_law_7 0 rfl)
theorem dL_law_372 : decode cL_law 372 = .ok (.iconst 3, 1) := fo_6 (fw_get da_cL_law_7 1 rfl)
theorem dL_law_373 : decode cL_law 373 = .ok (.iadd, 1) := fo_96 (fw_get da_cL_law_7 2 rfl)
theorem dL_law_374 : decode cL_law 374 = .ok (.iaload, 1) := fo_46 (fw_get da_cL_law_7 3 rfl)
theorem dL_law_375 : decode cL_law 375 = .ok (.invokevirtual 47, 3) := fo_182 (fw_get da_cL_law_7 4 rfl)
theorem dL_law_378 : decode cL_law 378 = .ok (.pop, 1) := fo_87 (fw_get da_cL_law_7 5 rfl)
theorem dL_law_379 : decode cL_law 379 = .ok (.aload_n 2, 1) := fo_44 (fw_get da_cL_law_7 6 rfl)
theorem dL_law_380 : decode cL_law 380 = .ok (.aload_n 0, 1) := fo_42 (fw_get da_cL_law_7 7 rfl)
theorem dL_law_381 : decode cL_law 381 = .ok (.iload 4, 2) := fo_21 (fw_get da_cL_law_7 8 rfl)
theorem dL_law_383 : decode cL_law 383 = .ok (.iconst 1, 1) := fo_4 (fw_get da_cL_law_7 9 rfl)
theorem dL_law_384 : decode cL_law 384 = .ok (.iadd, 1) := fo_96 (fw_get da_cL_law_7 10 rfl)
theorem dL_law_385 : decode cL_law 385 = .ok (.iaload, 1) := fo_46 (fw_get da_cL_law_7 11 rfl)
theorem dL_law_386 : decode cL_law 386 = .ok (.aload_n 0, 1) := fo_42 (fw_get da_cL_law_7 12 rfl)
theorem dL_law_387 : decode cL_law 387 = .ok (.iload 4, 2) := fo_21 (fw_get da_cL_law_7 13 rfl)
theorem dL_law_389 : decode cL_law 389 = .ok (.iconst 2, 1) := fo_5 (fw_get da_cL_law_7 14 rfl)
theorem dL_law_390 : decode cL_law 390 = .ok (.iadd, 1) := fo_96 (fw_get da_cL_law_7 15 rfl)
theorem dL_law_391 : decode cL_law 391 = .ok (.iaload, 1) := fo_46 (fw_get da_cL_law_7 16 rfl)
theorem dL_law_392 : decode cL_law 392 = .ok (.aload_n 0, 1) := fo_42 (fw_get da_cL_law_7 17 rfl)
theorem dL_law_393 : decode cL_law 393 = .ok (.iload 4, 2) := fo_21 (fw_get da_cL_law_7 18 rfl)
theorem dL_law_395 : decode cL_law 395 = .ok (.iconst 3, 1) := fo_6 (fw_get da_cL_law_7 19 rfl)
def dt_cL_law_8 : List (Nat × Nat × Nat × Nat) := [(396, 96, 0, 0), (397, 46, 0, 0), (398, 182, 2, 51), (401, 87, 0, 0), (402, 167, 2, 1886)]
theorem da_cL_law_8 : fw dt_cL_law_8 0 cL_law.data.toList = true := by decide +kernel
theorem dL_law_396 : decode cL_law 396 = .ok (.iadd, 1) := fo_96 (fw_get da_cL_law_8 0 rfl)
theorem dL_law_397 : decode cL_law 397 = .ok (.iaload, 1) := fo_46 (fw_get da_cL_law_8 1 rfl)
theorem dL_law_398 : decode cL_law 398 = .ok (.invokevirtual 51, 3) := fo_182 (fw_get da_cL_law_8 2 rfl)
theorem dL_law_401 : decode cL_law 401 = .ok (.pop, 1) := fo_87 (fw_get da_cL_law_8 3 rfl)
theorem dL_law_402 : decode cL_law 402 = .ok (.goto 1886, 3) := fo_167 (fw_get da_cL_law_8 4 rfl) (by decide +kernel)


def dt_cL_law_9 : List (Nat × Nat × Nat × Nat) := [(405, 43, 0, 0), (406, 42, 0, 0), (407, 21, 1, 4), (409, 4, 0, 0), (410, 96, 0, 0), (411, 46, 0, 0), (412, 42, 0, 0), (413, 21, 1, 4), (415, 5, 0, 0), (416, 96, 0, 0), (417, 46, 0, 0), (418, 182, 2, 52), (421, 87, 0, 0), (422, 44, 0, 0), (423, 42, 0, 0), (424, 21, 1, 4), (426, 4, 0, 0), (427, 96, 0, 0), (428, 46, 0, 0), (429, 42, 0, 0)]
theorem da_cL_law_9 : fw dt_cL_law_9 0 cL_law.data.toList = true := by decide +kernel
theorem dL_law_405 : decode cL_law 405 = .ok (.aload_n 1, 1) := fo_43 (fw_get da_cL_law_9 0 rfl)
theorem dL_law_406 : decode cL_law 406 = .ok (.aload_n 0, 1) := fo_42 (fw_get da_cL_law_9 1 rfl)
theorem dL_law_407 : decode cL_law 407 = .ok (.iload 4, 2) := fo_21 (fw_get da_cL_law_9 2 rfl)
theorem dL_law_409 : decode cL_law 409 = .ok (.iconst 1, 1) := fo_4 (fw_get da_cL_law_9 3 rfl)
theorem dL_law_410 : decode cL_law 410 = .ok (.iadd, 1) := fo_96 (fw_get da_cL_law_9 4 rfl)
theorem dL_law_411 : decode cL_law 411 = .ok (.iaload, 1) := fo_46 (fw_get da_cL_law_9 5 rfl)
theorem dL_law_412 : decode cL_law 412 = .ok (.aload_n 0, 1) := fo_42 (fw_get da_cL_law_9 6 rfl)
theorem dL_law_413 : decode cL_law 413 = .ok (.iload 4, 2) := fo_21 (fw_get da_cL_law_9 7 rfl)
theorem dL_law_415 : decode cL_law 415 = .ok (.iconst 2, 1) := fo_5 (fw_get da_cL_law_9 8 rfl)
theorem dL_law_416 : decode cL_law 416 = .ok (.iadd, 1) := fo_96 (fw_get da_cL_law_9 9 rfl)
theorem dL_law_417 : decode cL_law 417 = .ok (.iaload, 1) := fo_46 (fw_get da_cL_law_9 10 rfl)
theorem dL_law_418 : decode cL_law 418 = .ok (.invokevirtual 52, 3) := fo_182 (fw_get da_cL_law_9 11 rfl)
theorem dL_law_421 : decode cL_law 421 = .ok (.pop, 1) := fo_87 (fw_get da_cL_law_9 12 rfl)
theorem dL_law_422 : decode cL_law 422 = .ok (.aload_n 2, 1) := fo_44 (fw_get da_cL_law_9 13 rfl)
theorem dL_law_423 : decode cL_law 423 = .ok (.aload_n 0, 1) := fo_42 (fw_get da_cL_law_9 14 rfl)
theorem dL_law_424 : decode cL_law 424 = .ok (.iload 4, 2) := fo_21 (fw_get da_cL_law_9 15 rfl)
theorem dL_law_426 : decode cL_law 426 = .ok (.iconst 1, 1) := fo_4 (fw_get da_cL_law_9 16 rfl)
theorem dL_law_427 : decode cL_law 427 = .ok (.iadd, 1) := fo_96 (fw_get da_cL_law_9 17 rfl)
theorem dL_law_428 : decode cL_law 428 = .ok (.iaload, 1) := fo_46 (fw_get da_cL_law_9 18 rfl)
theorem dL_law_429 : decode cL_law 429 = .ok (.aload_n 0, 1) := fo_42 (fw_get da_cL_law_9 19 rfl)
def dt_cL_law_10 : List (Nat × Nat × Nat × Nat) := [(430, 21, 1, 4), (432, 5, 0, 0), (433, 96, 0, 0), (434, 46, 0, 0), (435, 182, 2, 55), (438, 87, 0, 0), (439, 167, 2, 1849), (442, 43, 0, 0), (443, 42, 0, 0), (444, 21, 1, 4), (446, 4, 0, 0), (447, 96, 0, 0), (448, 46, 0, 0), (449, 42, 0, 0), (450, 21, 1, 4), (452, 5, 0, 0), (453, 96, 0, 0), (454, 46, 0, 0), (455, 182, 2, 56), (458, 87, 0, 0)]
theorem da_cL_law_10 : fw dt_cL_law_10 0 cL_law.data.toList = true := by decide +kernel
theorem dL_law_430 : decode cL_law 430 = .ok (.iload 4, 2) := fo_21 (fw_get da_cL_law_10 0 rfl)
theorem dL_law_432 : decode cL_law 432 = .ok (.iconst 2, 1) := fo_5 (fw_get da_cL_law_10 1 rfl)
theorem dL_law_433 : decode cL_law 433 = .ok (.iadd, 1) := fo_96 (fw_get da_cL_law_10 2 rfl)
theorem dL_law_434 : decode cL_law 434 = .ok (.iaload, 1) := fo_46 (fw_get da_cL_law_10 3 rfl)
theorem dL_law_435 : decode cL_law 435 = .ok (.invokevirtual 55, 3) := fo_182 (fw_get da_cL_law_10 4 rfl)
theorem dL_law_438 : decode cL_law 438 = .ok (.pop, 1) := fo_87 (fw_get da_cL_law_10 5 rfl)
theorem dL_law_439 : decode cL_law 439 = .ok (.goto 1849, 3) := fo_167 (fw_get da_cL_law_10 6 rfl) (by decide +kernel)
theorem dL_law_442 : decode cL_law 442 = .ok (.aload_n 1, 1) := fo_43 (fw_get da_cL_law_10 7 rfl)
theorem dL_law_443 : decode cL_law 443 = .ok (.aload_n 0, 1) := fo_42 (fw_get da_cL_law_10 8 rfl)
theorem dL_law_444 : decode cL_law 444 = .ok (.iload 4, 2) := fo_21 (fw_get da_cL_law_10 9 rfl)
theorem dL_law_446 : decode cL_law 446 = .ok (.iconst 1, 1) := fo_4 (fw_get da_cL_law_10 10 rfl)
theorem dL_law_447 : decode cL_law 447 = .ok (.iadd, 1) := fo_96 (fw_get da_cL_law_10 11 rfl)
theorem dL_law_448 : decode cL_law 448 = .ok (.iaload, 1) := fo_46 (fw_get da_cL_law_10 12 rfl)
theorem dL_law_449 : decode cL_law 449 = .ok (.aload_n 0, 1) := fo_42 (fw_get da_cL_law_10 13 rfl)
theorem dL_law_450 : decode cL_law 450 = .ok (.iload 4, 2) := fo_21 (fw_get da_cL_law_10 14 rfl)
theorem dL_law_452 : decode cL_law 452 = .ok (.iconst 2, 1) := fo_5 (fw_get da_cL_law_10 15 rfl)
theorem dL_law_453 : decode cL_law 453 = .ok (.iadd, 1) := fo_96 (fw_get da_cL_law_10 16 rfl)
theorem dL_law_454 : decode cL_law 454 = .ok (.iaload, 1) := fo_46 (fw_get da_cL_law_10 17 rfl)
theorem dL_law_455 : decode cL_law 455 = .ok (.invokevirtual 56, 3) := fo_182 (fw_get da_cL_law_10 18 rfl)
theorem dL_law_458 : decode cL_law 458 = .ok (.pop, 1) := fo_87 (fw_get da_cL_law_10 19 rfl)
def dt_cL_law_11 : List (Nat × Nat × Nat × Nat) := [(459, 44, 0, 0), (460, 42, 0, 0), (461, 21, 1, 4), (463, 4, 0, 0), (464, 96, 0, 0), (465, 46, 0, 0), (466, 42, 0, 0), (467, 21, 1, 4), (469, 5, 0, 0), (470, 96, 0, 0), (471, 46, 0, 0), (472, 182, 2, 59), (475, 87, 0, 0), (476, 167, 2, 1812), (479, 43, 0, 0), (480, 42, 0, 0), (481, 21, 1, 4), (483, 4, 0, 0), (484, 96, 0, 0), (485, 46, 0, 0)]
theorem da_cL_law_11 : fw dt_cL_law_11 0 cL_law.data.toList = true := by decide +kernel
theorem dL_law_459 : decode cL_law 459 = .ok (.aload_n 2, 1) := fo_44 (fw_get da_cL_law_11 0 rfl)
theorem dL_law_460 : decode cL_law 460 = .ok (.aload_n 0, 1) := fo_42 (fw_get da_cL_law_11 1 rfl)
theorem dL_law_461 : decode cL_law 461 = .ok (.iload 4, 2) := fo_21 (fw_get da_cL_law_11 2 rfl)
theorem dL_law_463 : decode cL_law 463 = .ok (.iconst 1, 1) := fo_4 (fw_get da_cL_law_11 3 rfl)
theorem dL_law_464 : decode cL_law 464 = .ok (.iadd, 1) := fo_96 (fw_get da_cL_law_11 4 rfl)
theorem dL_law_465 : decode cL_law 465 = .ok (.iaload, 1) := fo_46 (fw_get da_cL_law_11 5 rfl)
theorem dL_law_466 : decode cL_law 466 = .ok (.aload_n 0, 1) := fo_42 (fw_get da_cL_law_11 6 rfl)
theorem dL_law_467 : decode cL_law 467 = .ok (.iload 4, 2) := fo_21 (fw_get da_cL_law_11 7 rfl)
theorem dL_law_469 : decode cL_law 469 = .ok (.iconst 2, 1) := fo_5 (fw_get da_cL_law_11 8 rfl)
theorem dL_law_470 : decode cL_law 470 = .ok (.iadd, 1) := fo_96 (fw_get da_cL_law_11 9 rfl)
theorem dL_law_471 : decode cL_law 471 = .ok (.iaload, 1) := fo_46 (fw_get da_cL_law_11 10 rfl)
theorem dL_law_472 : decode cL_law 472 = .ok (.invokevirtual 59, 3) := fo_182 (fw_get da_cL_law_11 11 rfl)
theorem dL_law_475 : decode cL_law 475 = .ok (.pop, 1) := fo_87 (fw_get da_cL_law_11 12 rfl)
theorem dL_law_476 : decode cL_law 476 = .ok (.goto 1812, 3) := fo_167 (fw_get da_cL_law_11 13 rfl) (by decide +kernel)
theorem dL_law_479 : decode cL_law 479 = .ok (.aload_n 1, 1) := fo_43 (fw_get da_cL_law_11 14 rfl)
theorem dL_law_480 : decode cL_law 480 = .ok (.aload_n 0, 1) := fo_42 (fw_get da_cL_law_11 15 rfl)
theorem dL_law_481 : decode cL_law 481 = .ok (.iload 4, 2) := fo_21 (fw_get da_cL_law_11 16 rfl)
theorem dL_law_483 : decode cL_law 483 = .ok (.iconst 1, 1) := fo_4 (fw_get da_cL_law_11 17 rfl)
theorem dL_law_484 : decode cL_law 484 = .ok (.iadd, 1) := fo_96 (fw_get da_cL_law_11 18 rfl)
theorem dL_law_485 : decode cL_law 485 = .ok (.iaload, 1) := fo_46 (fw_get da_cL_law_11 19 rfl)
def dt_cL_law_12 : List (Nat × Nat × Nat × Nat) := [(486, 42, 0, 0), (487, 21, 1, 4), (489, 5, 0, 0), (490, 96, 0, 0), (491, 46, 0, 0), (492, 182, 2, 60), (495, 87, 0, 0), (496, 44, 0, 0), (497, 42, 0, 0), (498, 21, 1, 4), (500, 4, 0, 0), (501, 96, 0, 0), (502, 46, 0, 0), (503, 42, 0, 0), (504, 21, 1, 4), (506, 5, 0, 0), (507, 96, 0, 0), (508, 46, 0, 0), (509, 182, 2, 63), (512, 87, 0, 0)]
theorem da_cL_law_12 : fw dt_cL_law_12 0 cL_law.data.toList = true := by decide +kernel
theorem dL_law_486 : decode cL_law 486 = .ok (.aload_n 0, 1) := fo_42 (fw_get da_cL_law_12 0 rfl)
theorem dL_law_487 : decode cL_law 487 = .ok (.iload 4, 2) := fo_21 (fw_get da_cL_law_12 1 rfl)
theorem dL_law_489 : decode cL_law 489 = .ok (.iconst 2, 1) := fo_5 (fw_get da_cL_law_12 2 rfl)
theorem dL_law_490 : decode cL_law 490 = .ok (.iadd, 1) := fo_96 (fw_get da_cL_law_12 3 rfl)
theorem dL_law_491 : decode cL_law 491 = .ok (.iaload, 1) := fo_46 (fw_get da_cL_law_12 4 rfl)
theorem dL_law_492 : decode cL_law 492 = .ok (.invokevirtual 60, 3) := fo_182 (fw_get da_cL_law_12 5 rfl)
theorem dL_law_495 : decode cL_law 495 = .ok (.pop, 1) := fo_87 (fw_get da_cL_law_12 6 rfl)
theorem dL_law_496 : decode cL_law 496 = .ok (.aload_n 2, 1) := fo_44 (fw_get da_cL_law_12 7 rfl)
theorem dL_law_497 : decode cL_law 497 = .ok (.aload_n 0, 1) := fo_42 (fw_get da_cL_law_12 8 rfl)
theorem dL_law_498 : decode cL_law 498 = .ok (.iload 4, 2) := fo_21 (fw_get da_cL_law_12 9 rfl)
theorem dL_law_500 : decode cL_law 500 = .ok (.iconst 1, 1) := fo_4 (fw_get da_cL_law_12 10 rfl)
theorem dL_law_501 : decode cL_law 501 = .ok (.iadd, 1) := fo_96 (fw_get da_cL_law_12 11 rfl)
theorem dL_law_502 : decode cL_law 502 = .ok (.iaload, 1) := fo_46 (fw_get da_cL_law_12 12 rfl)
theorem dL_law_503 : decode cL_law 503 = .ok (.aload_n 0, 1) := fo_42 (fw_get da_cL_law_12 13 rfl)
theorem dL_law_504 : decode cL_law 504 = .ok (.iload 4, 2) := fo_21 (fw_get da_cL_law_12 14 rfl)
theorem dL_law_506 : decode cL_law 506 = .ok (.iconst 2, 1) := fo_5 (fw_get da_cL_law_12 15 rfl)
theorem dL_law_507 : decode cL_law 507 = .ok (.iadd, 1) := fo_96 (fw_get da_cL_law_12 16 rfl)
theorem dL_law_508 : decode cL_law 508 = .ok (.iaload, 1) := fo_46 (fw_get da_cL_law_12 17 rfl)
theorem dL_law_509 : decode cL_law 509 = .ok (.invokevirtual 63, 3) := fo_182 (fw_get da_cL_law_12 18 rfl)
theorem dL_law_512 : decode cL_law 512 = .ok (.pop, 1) := fo_87 (fw_get da_cL_law_12 19 rfl)
def dt_cL_law_13 : List (Nat × Nat × Nat × Nat) := [(513, 167, 2, 1775), (516, 43, 0, 0), (517, 42, 0, 0), (518, 21, 1, 4), (520, 4, 0, 0), (521, 96, 0, 0), (522, 46, 0, 0), (523, 182, 2, 64), (526, 87, 0, 0), (527, 44, 0, 0), (528, 42, 0, 0), (529, 21, 1, 4), (531, 4, 0, 0), (532, 96, 0, 0), (533, 46, 0, 0), (534, 182, 2, 67), (537, 87, 0, 0), (538, 167, 2, 1750), (541, 43, 0, 0), (542, 42, 0, 0)]
theorem da_cL_law_13 : fw dt_cL_law_13 0 cL_law.data.toList = true := by decide +kernel
theorem dL_law_513 : decode cL_law 513 = .ok (.goto 1775, 3) := fo_167 (fw_get da_cL_law_13 0 rfl) (by decide +kernel)
theorem dL_law_516 : decode cL_law 516 = .ok (.aload_n 1, 1) := fo_43 (fw_get da_cL_law_13 1 rfl)
theorem dL_law_517 : decode cL_law 517 = .ok (.aload_n 0, 1) := fo_42 (fw_get da_cL_law_13 2 rfl)
theorem dL_law_518 : decode cL_law 518 = .ok (.iload 4, 2) := fo_21 (fw_get da_cL_law_13 3 rfl)
theorem dL_law_520 : decode cL_law 520 = .ok (.iconst 1, 1) := fo_4 (fw_get da_cL_law_13 4 rfl)
theorem dL_law_521 : decode cL_law 521 = .ok (.iadd, 1) := fo_96 (fw_get da_cL_law_13 5 rfl)
theorem dL_law_522 : decode cL_law 522 = .ok (.iaload, 1) := fo_46 (fw_get da_cL_law_13 6 rfl)
theorem dL_law_523 : decode cL_law 523 = .ok (.invokevirtual 64, 3) := fo_182 (fw_get da_cL_law_13 7 rfl)
theorem dL_law_526 : decode cL_law 526 = .ok (.pop, 1) := fo_87 (fw_get da_cL_law_13 8 rfl)
theorem dL_law_527 : decode cL_law 527 = .ok (.aload_n 2, 1) := fo_44 (fw_get da_cL_law_13 9 rfl)
theorem dL_law_528 : decode cL_law 528 = .ok (.aload_n 0, 1) := fo_42 (fw_get da_cL_law_13 10 rfl)
theorem dL_law_529 : decode cL_law 529 = .ok (.iload 4, 2) := fo_21 (fw_get da_cL_law_13 11 rfl)
theorem dL_law_531 : decode cL_law 531 = .ok (.iconst 1, 1) := fo_4 (fw_get da_cL_law_13 12 rfl)
theorem dL_law_532 : decode cL_law 532 = .ok (.iadd, 1) := fo_96 (fw_get da_cL_law_13 13 rfl)
theorem dL_law_533 : decode cL_law 533 = .ok (.iaload, 1) := fo_46 (fw_get da_cL_law_13 14 rfl)
theorem dL_law_534 : decode cL_law 534 = .ok (.invokevirtual 67, 3) := fo_182 (fw_get da_cL_law_13 15 rfl)
theorem dL_law_537 : decode cL_law 537 = .ok (.pop, 1) := fo_87 (fw_get da_cL_law_13 16 rfl)
theorem dL_law_538 : decode cL_law 538 = .ok (.goto 1750, 3) := fo_167 (fw_get da_cL_law_13 17 rfl) (by decide +kernel)
theorem dL_law_541 : decode cL_law 541 = .ok (.aload_n 1, 1) := fo_43 (fw_get da_cL_law_13 18 rfl)
theorem dL_law_542 : decode cL_law 542 = .ok (.aload_n 0, 1) := fo_42 (fw_get da_cL_law_13 19 rfl)
def dt_cL_law_14 : List (Nat × Nat × Nat × Nat) := [(543, 21, 1, 4), (545, 4, 0, 0), (546, 96, 0, 0), (547, 46, 0, 0), (548, 45, 0, 0), (549, 184, 2, 68), (552, 54, 1, 5), (554, 44, 0, 0), (555, 42, 0, 0), (556, 21, 1, 4), (558, 4, 0, 0), (559, 96, 0, 0), (560, 46, 0, 0), (561, 182, 2, 73), (564, 54, 1, 6), (566, 167, 2, 1722), (569, 43, 0, 0), (570, 42, 0, 0), (571, 21, 1, 4), (573, 4, 0, 0)]
theorem da_cL_law_14 : fw dt_cL_law_14 0 cL_law.data.toList = true := by decide +kernel
theorem dL_law_543 : decode cL_law 543 = .ok (.iload 4, 2) := fo_21 (fw_get da_cL_law_14 0 rfl)
theorem dL_law_545 : decode cL_law 545 = .ok (.iconst 1, 1) := fo_4 (fw_get da_cL_law_14 1 rfl)
theorem dL_law_546 : decode cL_law 546 = .ok (.iadd, 1) := fo_96 (fw_get da_cL_law_14 2 rfl)
theorem dL_law_547 : decode cL_law 547 = .ok (.iaload, 1) := fo_46 (fw_get da_cL_law_14 3 rfl)
theorem dL_law_548 : decode cL_law 548 = .ok (.aload_n 3, 1) := fo_45 (fw_get da_cL_law_14 4 rfl)
theorem dL_law_549 : decode cL_law 549 = .ok (.invokestatic 68, 3) := fo_184 (fw_get da_cL_law_14 5 rfl)
theorem dL_law_552 : decode cL_law 552 = .ok (.istore 5, 2) := fo_54 (fw_get da_cL_law_14 6 rfl)
theorem dL_law_554 : decode cL_law 554 = .ok (.aload_n 2, 1) := fo_44 (fw_get da_cL_law_14 7 rfl)
theorem dL_law_555 : decode cL_law 555 = .ok (.aload_n 0, 1) := fo_42 (fw_get da_cL_law_14 8 rfl)
theorem dL_law_556 : decode cL_law 556 = .ok (.iload 4, 2) := fo_21 (fw_get da_cL_law_14 9 rfl)
theorem dL_law_558 : decode cL_law 558 = .ok (.iconst 1, 1) := fo_4 (fw_get da_cL_law_14 10 rfl)
theorem dL_law_559 : decode cL_law 559 = .ok (.iadd, 1) := fo_96 (fw_get da_cL_law_14 11 rfl)
theorem dL_law_560 : decode cL_law 560 = .ok (.iaload, 1) := fo_46 (fw_get da_cL_law_14 12 rfl)
theorem dL_law_561 : decode cL_law 561 = .ok (.invokevirtual 73, 3) := fo_182 (fw_get da_cL_law_14 13 rfl)
theorem dL_law_564 : decode cL_law 564 = .ok (.istore 6, 2) := fo_54 (fw_get da_cL_law_14 14 rfl)
theorem dL_law_566 : decode cL_law 566 = .ok (.goto 1722, 3) := fo_167 (fw_get da_cL_law_14 15 rfl) (by decide +kernel)
theorem dL_law_569 : decode cL_law 569 = .ok (.aload_n 1, 1) := fo_43 (fw_get da_cL_law_14 16 rfl)
theorem dL_law_570 : decode cL_law 570 = .ok (.aload_n 0, 1) := fo_42 (fw_get da_cL_law_14 17 rfl)
theorem dL_law_571 : decode cL_law 571 = .ok (.iload 4, 2) := fo_21 (fw_get da_cL_law_14 18 rfl)
theorem dL_law_573 : decode cL_law 573 = .ok (.iconst 1, 1) := fo_4 (fw_get da_cL_law_14 19 rfl)
def dt_cL_law_15 : List (Nat × Nat × Nat × Nat) := [(574, 96, 0, 0), (575, 46, 0, 0), (576, 42, 0, 0), (577, 21, 1, 4), (579, 5, 0, 0), (580, 96, 0, 0), (581, 46, 0, 0), (582, 42, 0, 0), (583, 21, 1, 4), (585, 6, 0, 0), (586, 96, 0, 0), (587, 46, 0, 0), (588, 182, 2, 74), (591, 87, 0, 0), (592, 44, 0, 0), (593, 42, 0, 0), (594, 21, 1, 4), (596, 4, 0, 0), (597, 96, 0, 0), (598, 46, 0, 0)]
theorem da_cL_law_15 : fw dt_cL_law_15 0 cL_law.data.toList = true := by decide +kernel
theorem dL_law_574 : decode cL_law 574 = .ok (.iadd, 1) := fo_96 (fw_get da_cL_law_15 0 rfl)
theorem dL_law_575 : decode cL_law 575 = .ok (.iaload, 1) := fo_46 (fw_get da_cL_law_15 1 rfl)
theorem dL_law_576 : decode cL_law 576 = .ok (.aload_n 0, 1) := fo_42 (fw_get da_cL_law_15 2 rfl)
theorem dL_law_577 : decode cL_law 577 = .ok (.iload 4, 2) := fo_21 (fw_get da_cL_law_15 3 rfl)
theorem dL_law_579 : decode cL_law 579 = .ok (.iconst 2, 1) := fo_5 (fw_get da_cL_law_15 4 rfl)
theorem dL_law_580 : decode cL_law 580 = .ok (.iadd, 1) := fo_96 (fw_get da_cL_law_15 5 rfl)
theorem dL_law_581 : decode cL_law 581 = .ok (.iaload, 1) := fo_46 (fw_get da_cL_law_15 6 rfl)
theorem dL_law_582 : decode cL_law 582 = .ok (.aload_n 0, 1) := fo_42 (fw_get da_cL_law_15 7 rfl)
theorem dL_law_583 : decode cL_law 583 = .ok (.iload 4, 2) := fo_21 (fw_get da_cL_law_15 8 rfl)
theorem dL_law_585 : decode cL_law 585 = .ok (.iconst 3, 1) := fo_6 (fw_get da_cL_law_15 9 rfl)
theorem dL_law_586 : decode cL_law 586 = .ok (.iadd, 1) := fo_96 (fw_get da_cL_law_15 10 rfl)
theorem dL_law_587 : decode cL_law 587 = .ok (.iaload, 1) := fo_46 (fw_get da_cL_law_15 11 rfl)
theorem dL_law_588 : decode cL_law 588 = .ok (.invokevirtual 74, 3) := fo_182 (fw_get da_cL_law_15 12 rfl)
theorem dL_law_591 : decode cL_law 591 = .ok (.pop, 1) := fo_87 (fw_get da_cL_law_15 13 rfl)
theorem dL_law_592 : decode cL_law 592 = .ok (.aload_n 2, 1) := fo_44 (fw_get da_cL_law_15 14 rfl)
theorem dL_law_593 : decode cL_law 593 = .ok (.aload_n 0, 1) := fo_42 (fw_get da_cL_law_15 15 rfl)
theorem dL_law_594 : decode cL_law 594 = .ok (.iload 4, 2) := fo_21 (fw_get da_cL_law_15 16 rfl)
theorem dL_law_596 : decode cL_law 596 = .ok (.iconst 1, 1) := fo_4 (fw_get da_cL_law_15 17 rfl)
theorem dL_law_597 : decode cL_law 597 = .ok (.iadd, 1) := fo_96 (fw_get da_cL_law_15 18 rfl)
theorem dL_law_598 : decode cL_law 598 = .ok (.iaload, 1) := fo_46 (fw_get da_cL_law_15 19 rfl)
def dt_cL_law_16 : List (Nat × Nat × Nat × Nat) := [(599, 42, 0, 0), (600, 21, 1, 4), (602, 5, 0, 0), (603, 96, 0, 0), (604, 46, 0, 0), (605, 42, 0, 0), (606, 21, 1, 4), (608, 6, 0, 0), (609, 96, 0, 0), (610, 46, 0, 0)]
theorem da_cL_law_16 : fw dt_cL_law_16 0 cL_law.data.toList = true := by decide +kernel
theorem dL_law_599 : decode cL_law 599 = .ok (.aload_n 0, 1) := fo_42 (fw_get da_cL_law_16 0 rfl)
theorem dL_law_600 : decode cL_law 600 = .ok (.iload 4, 2) := fo_21 (fw_get da_cL_law_16 1 rfl)
theorem dL_law_602 : decode cL_law 602 = .ok (.iconst 2, 1) := fo_5 (fw_get da_cL_law_16 2 rfl)
theorem dL_law_603 : decode cL_law 603 = .ok (.iadd, 1) := fo_96 (fw_get da_cL_law_16 3 rfl)
theorem dL_law_604 : decode cL_law 604 = .ok (.iaload, 1) := fo_46 (fw_get da_cL_law_16 4 rfl)
theorem dL_law_605 : decode cL_law 605 = .ok (.aload_n 0, 1) := fo_42 (fw_get da_cL_law_16 5 rfl)
theorem dL_law_606 : decode cL_law 606 = .ok (.iload 4, 2) := fo_21 (fw_get da_cL_law_16 6 rfl)
theorem dL_law_608 : decode cL_law 608 = .ok (.iconst 3, 1) := fo_6 (fw_get da_cL_law_16 7 rfl)
theorem dL_law_609 : decode cL_law 609 = .ok (.iadd, 1) := fo_96 (fw_get da_cL_law_16 8 rfl)
theorem dL_law_610 : decode cL_law 610 = .ok (.iaload, 1) := fo_46 (fw_get da_cL_law_16 9 rfl)


def dt_cL_law_17 : List (Nat × Nat × Nat × Nat) := [(611, 182, 2, 77), (614, 87, 0, 0), (615, 167, 2, 1673), (618, 43, 0, 0), (619, 42, 0, 0), (620, 21, 1, 4), (622, 4, 0, 0), (623, 96, 0, 0), (624, 46, 0, 0), (625, 42, 0, 0), (626, 21, 1, 4), (628, 5, 0, 0), (629, 96, 0, 0), (630, 46, 0, 0), (631, 182, 2, 78), (634, 87, 0, 0), (635, 44, 0, 0), (636, 42, 0, 0), (637, 21, 1, 4), (639, 4, 0, 0)]
theorem da_cL_law_17 : fw dt_cL_law_17 0 cL_law.data.toList = true := by decide +kernel
theorem dL_law_611 : decode cL_law 611 = .ok (.invokevirtual 77, 3) := fo_182 (fw_get da_cL_law_17 0 rfl)
theorem dL_law_614 : decode cL_law 614 = .ok (.pop, 1) := fo_87 (fw_get da_cL_law_17 1 rfl)
theorem dL_law_615 : decode cL_law 615 = .ok (.goto 1673, 3) := fo_167 (fw_get da_cL_law_17 2 rfl) (by decide +kernel)
theorem dL_law_618 : decode cL_law 618 = .ok (.aload_n 1, 1) := fo_43 (fw_get da_cL_law_17 3 rfl)
theorem dL_law_619 : decode cL_law 619 = .ok (.aload_n 0, 1) := fo_42 (fw_get da_cL_law_17 4 rfl)
theorem dL_law_620 : decode cL_law 620 = .ok (.iload 4, 2) := fo_21 (fw_get da_cL_law_17 5 rfl)
theorem dL_law_622 : decode cL_law 622 = .ok (.iconst 1, 1) := fo_4 (fw_get da_cL_law_17 6 rfl)
theorem dL_law_623 : decode cL_law 623 = .ok (.iadd, 1) := fo_96 (fw_get da_cL_law_17 7 rfl)
theorem dL_law_624 : decode cL_law 624 = .ok (.iaload, 1) := fo_46 (fw_get da_cL_law_17 8 rfl)
theorem dL_law_625 : decode cL_law 625 = .ok (.aload_n 0, 1) := fo_42 (fw_get da_cL_law_17 9 rfl)
theorem dL_law_626 : decode cL_law 626 = .ok (.iload 4, 2) := fo_21 (fw_get da_cL_law_17 10 rfl)
theorem dL_law_628 : decode cL_law 628 = .ok (.iconst 2, 1) := fo_5 (fw_get da_cL_law_17 11 rfl)
theorem dL_law_629 : decode cL_law 629 = .ok (.iadd, 1) := fo_96 (fw_get da_cL_law_17 12 rfl)
theorem dL_law_630 : decode cL_law 630 = .ok (.iaload, 1) := fo_46 (fw_get da_cL_law_17 13 rfl)
theorem dL_law_631 : decode cL_law 631 = .ok (.invokevirtual 78, 3) := fo_182 (fw_get da_cL_law_17 14 rfl)
theorem dL_law_634 : decode cL_law 634 = .ok (.pop, 1) := fo_87 (fw_get da_cL_law_17 15 rfl)
theorem dL_law_635 : decode cL_law 635 = .ok (.aload_n 2, 1) := fo_44 (fw_get da_cL_law_17 16 rfl)
theorem dL_law_636 : decode cL_law 636 = .ok (.aload_n 0, 1) := fo_42 (fw_get da_cL_law_17 17 rfl)
theorem dL_law_637 : decode cL_law 637 = .ok (.iload 4, 2) := fo_21 (fw_get da_cL_law_17 18 rfl)
theorem dL_law_639 : decode cL_law 639 = .ok (.iconst 1, 1) := fo_4 (fw_get da_cL_law_17 19 rfl)
def dt_cL_law_18 : List (Nat × Nat × Nat × Nat) := [(640, 96, 0, 0), (641, 46, 0, 0), (642, 42, 0, 0), (643, 21, 1, 4), (645, 5, 0, 0), (646, 96, 0, 0), (647, 46, 0, 0), (648, 182, 2, 81), (651, 87, 0, 0), (652, 167, 2, 1636), (655, 43, 0, 0), (656, 182, 2, 82), (659, 87, 0, 0), (660, 44, 0, 0), (661, 182, 2, 86), (664, 87, 0, 0), (665, 167, 2, 1623), (668, 43, 0, 0), (669, 42, 0, 0), (670, 21, 1, 4)]
theorem da_cL_law_18 : fw dt_cL_law_18 0 cL_law.data.toList = true := by decide +kernel
theorem dL_law_640 : decode cL_law 640 = .ok (.iadd, 1) := fo_96 (fw_get da_cL_law_18 0 rfl)
theorem dL_law_641 : decode cL_law 641 = .ok (.iaload, 1) := fo_46 (fw_get da_cL_law_18 1 rfl)
theorem dL_law_642 : decode cL_law 642 = .ok (.aload_n 0, 1) := fo_42 (fw_get da_cL_law_18 2 rfl)
theorem dL_law_643 : decode cL_law 643 = .ok (.iload 4, 2) := fo_21 (fw_get da_cL_law_18 3 rfl)
theorem dL_law_645 : decode cL_law 645 = .ok (.iconst 2, 1) := fo_5 (fw_get da_cL_law_18 4 rfl)
theorem dL_law_646 : decode cL_law 646 = .ok (.iadd, 1) := fo_96 (fw_get da_cL_law_18 5 rfl)
theorem dL_law_647 : decode cL_law 647 = .ok (.iaload, 1) := fo_46 (fw_get da_cL_law_18 6 rfl)
theorem dL_law_648 : decode cL_law 648 = .ok (.invokevirtual 81, 3) := fo_182 (fw_get da_cL_law_18 7 rfl)
theorem dL_law_651 : decode cL_law 651 = .ok (.pop, 1) := fo_87 (fw_get da_cL_law_18 8 rfl)
theorem dL_law_652 : decode cL_law 652 = .ok (.goto 1636, 3) := fo_167 (fw_get da_cL_law_18 9 rfl) (by decide +kernel)
theorem dL_law_655 : decode cL_law 655 = .ok (.aload_n 1, 1) := fo_43 (fw_get da_cL_law_18 10 rfl)
theorem dL_law_656 : decode cL_law 656 = .ok (.invokevirtual 82, 3) := fo_182 (fw_get da_cL_law_18 11 rfl)
theorem dL_law_659 : decode cL_law 659 = .ok (.pop, 1) := fo_87 (fw_get da_cL_law_18 12 rfl)
theorem dL_law_660 : decode cL_law 660 = .ok (.aload_n 2, 1) := fo_44 (fw_get da_cL_law_18 13 rfl)
theorem dL_law_661 : decode cL_law 661 = .ok (.invokevirtual 86, 3) := fo_182 (fw_get da_cL_law_18 14 rfl)
theorem dL_law_664 : decode cL_law 664 = .ok (.pop, 1) := fo_87 (fw_get da_cL_law_18 15 rfl)
theorem dL_law_665 : decode cL_law 665 = .ok (.goto 1623, 3) := fo_167 (fw_get da_cL_law_18 16 rfl) (by decide +kernel)
theorem dL_law_668 : decode cL_law 668 = .ok (.aload_n 1, 1) := fo_43 (fw_get da_cL_law_18 17 rfl)
theorem dL_law_669 : decode cL_law 669 = .ok (.aload_n 0, 1) := fo_42 (fw_get da_cL_law_18 18 rfl)
theorem dL_law_670 : decode cL_law 670 = .ok (.iload 4, 2) := fo_21 (fw_get da_cL_law_18 19 rfl)
def dt_cL_law_19 : List (Nat × Nat × Nat × Nat) := [(672, 4, 0, 0), (673, 96, 0, 0), (674, 46, 0, 0), (675, 42, 0, 0), (676, 21, 1, 4), (678, 5, 0, 0), (679, 96, 0, 0), (680, 46, 0, 0), (681, 182, 2, 87), (684, 87, 0, 0), (685, 44, 0, 0), (686, 42, 0, 0), (687, 21, 1, 4), (689, 4, 0, 0), (690, 96, 0, 0), (691, 46, 0, 0), (692, 42, 0, 0), (693, 21, 1, 4), (695, 5, 0, 0), (696, 96, 0, 0)]
theorem da_cL_law_19 : fw dt_cL_law_19 0 cL_law.data.toList = true := by decide +kernel
theorem dL_law_672 : decode cL_law 672 = .ok (.iconst 1, 1) := fo_4 (fw_get da_cL_law_19 0 rfl)
theorem dL_law_673 : decode cL_law 673 = .ok (.iadd, 1) := fo_96 (fw_get da_cL_law_19 1 rfl)
theorem dL_law_674 : decode cL_law 674 = .ok (.iaload, 1) := fo_46 (fw_get da_cL_law_19 2 rfl)
theorem dL_law_675 : decode cL_law 675 = .ok (.aload_n 0, 1) := fo_42 (fw_get da_cL_law_19 3 rfl)
theorem dL_law_676 : decode cL_law 676 = .ok (.iload 4, 2) := fo_21 (fw_get da_cL_law_19 4 rfl)
theorem dL_law_678 : decode cL_law 678 = .ok (.iconst 2, 1) := fo_5 (fw_get da_cL_law_19 5 rfl)
theorem dL_law_679 : decode cL_law 679 = .ok (.iadd, 1) := fo_96 (fw_get da_cL_law_19 6 rfl)
theorem dL_law_680 : decode cL_law 680 = .ok (.iaload, 1) := fo_46 (fw_get da_cL_law_19 7 rfl)
theorem dL_law_681 : decode cL_law 681 = .ok (.invokevirtual 87, 3) := fo_182 (fw_get da_cL_law_19 8 rfl)
theorem dL_law_684 : decode cL_law 684 = .ok (.pop, 1) := fo_87 (fw_get da_cL_law_19 9 rfl)
theorem dL_law_685 : decode cL_law 685 = .ok (.aload_n 2, 1) := fo_44 (fw_get da_cL_law_19 10 rfl)
theorem dL_law_686 : decode cL_law 686 = .ok (.aload_n 0, 1) := fo_42 (fw_get da_cL_law_19 11 rfl)
theorem dL_law_687 : decode cL_law 687 = .ok (.iload 4, 2) := fo_21 (fw_get da_cL_law_19 12 rfl)
theorem dL_law_689 : decode cL_law 689 = .ok (.iconst 1, 1) := fo_4 (fw_get da_cL_law_19 13 rfl)
theorem dL_law_690 : decode cL_law 690 = .ok (.iadd, 1) := fo_96 (fw_get da_cL_law_19 14 rfl)
theorem dL_law_691 : decode cL_law 691 = .ok (.iaload, 1) := fo_46 (fw_get da_cL_law_19 15 rfl)
theorem dL_law_692 : decode cL_law 692 = .ok (.aload_n 0, 1) := fo_42 (fw_get da_cL_law_19 16 rfl)
theorem dL_law_693 : decode cL_law 693 = .ok (.iload 4, 2) := fo_21 (fw_get da_cL_law_19 17 rfl)
theorem dL_law_695 : decode cL_law 695 = .ok (.iconst 2, 1) := fo_5 (fw_get da_cL_law_19 18 rfl)
theorem dL_law_696 : decode cL_law 696 = .ok (.iadd, 1) := fo_96 (fw_get da_cL_law_19 19 rfl)
def dt_cL_law_20 : List (Nat × Nat × Nat × Nat) := [(697, 46, 0, 0), (698, 182, 2, 90), (701, 87, 0, 0), (702, 167, 2, 1586), (705, 43, 0, 0), (706, 42, 0, 0), (707, 21, 1, 4), (709, 4, 0, 0), (710, 96, 0, 0), (711, 46, 0, 0), (712, 42, 0, 0), (713, 21, 1, 4), (715, 5, 0, 0), (716, 96, 0, 0), (717, 46, 0, 0), (718, 42, 0, 0), (719, 21, 1, 4), (721, 6, 0, 0), (722, 96, 0, 0), (723, 46, 0, 0)]
theorem da_cL_law_20 : fw dt_cL_law_20 0 cL_law.data.toList = true := by decide +kernel
theorem dL_law_697 : decode cL_law 697 = .ok (.iaload, 1) := fo_46 (fw_get da_cL_law_20 0 rfl)
theorem dL_law_698 : decode cL_law 698 = .ok (.invokevirtual 90, 3) := fo_182 (fw_get da_cL_law_20 1 rfl)
theorem dL_law_701 : decode cL_law 701 = .ok (.pop, 1) := fo_87 (fw_get da_cL_law_20 2 rfl)
theorem dL_law_702 : decode cL_law 702 = .ok (.goto 1586, 3) := fo_167 (fw_get da_cL_law_20 3 rfl) (by decide +kernel)
theorem dL_law_705 : decode cL_law 705 = .ok (.aload_n 1, 1) := fo_43 (fw_get da_cL_law_20 4 rfl)
theorem dL_law_706 : decode cL_law 706 = .ok (.aload_n 0, 1) := fo_42 (fw_get da_cL_law_20 5 rfl)
theorem dL_law_707 : decode cL_law 707 = .ok (.iload 4, 2) := fo_21 (fw_get da_cL_law_20 6 rfl)
theorem dL_law_709 : decode cL_law 709 = .ok (.iconst 1, 1) := fo_4 (fw_get da_cL_law_20 7 rfl)
theorem dL_law_710 : decode cL_law 710 = .ok (.iadd, 1) := fo_96 (fw_get da_cL_law_20 8 rfl)
theorem dL_law_711 : decode cL_law 711 = .ok (.iaload, 1) := fo_46 (fw_get da_cL_law_20 9 rfl)
theorem dL_law_712 : decode cL_law 712 = .ok (.aload_n 0, 1) := fo_42 (fw_get da_cL_law_20 10 rfl)
theorem dL_law_713 : decode cL_law 713 = .ok (.iload 4, 2) := fo_21 (fw_get da_cL_law_20 11 rfl)
theorem dL_law_715 : decode cL_law 715 = .ok (.iconst 2, 1) := fo_5 (fw_get da_cL_law_20 12 rfl)
theorem dL_law_716 : decode cL_law 716 = .ok (.iadd, 1) := fo_96 (fw_get da_cL_law_20 13 rfl)
theorem dL_law_717 : decode cL_law 717 = .ok (.iaload, 1) := fo_46 (fw_get da_cL_law_20 14 rfl)
theorem dL_law_718 : decode cL_law 718 = .ok (.aload_n 0, 1) := fo_42 (fw_get da_cL_law_20 15 rfl)
theorem dL_law_719 : decode cL_law 719 = .ok (.iload 4, 2) := fo_21 (fw_get da_cL_law_20 16 rfl)
theorem dL_law_721 : decode cL_law 721 = .ok (.iconst 3, 1) := fo_6 (fw_get da_cL_law_20 17 rfl)
theorem dL_law_722 : decode cL_law 722 = .ok (.iadd, 1) := fo_96 (fw_get da_cL_law_20 18 rfl)
theorem dL_law_723 : decode cL_law 723 = .ok (.iaload, 1) := fo_46 (fw_get da_cL_law_20 19 rfl)
def dt_cL_law_21 : List (Nat × Nat × Nat × Nat) := [(724, 42, 0, 0), (725, 21, 1, 4), (727, 7, 0, 0), (728, 96, 0, 0), (729, 46, 0, 0), (730, 45, 0, 0), (731, 184, 2, 91), (734, 54, 1, 5), (736, 44, 0, 0), (737, 42, 0, 0), (738, 21, 1, 4), (740, 4, 0, 0), (741, 96, 0, 0), (742, 46, 0, 0), (743, 42, 0, 0), (744, 21, 1, 4), (746, 5, 0, 0), (747, 96, 0, 0), (748, 46, 0, 0), (749, 42, 0, 0)]
theorem da_cL_law_21 : fw dt_cL_law_21 0 cL_law.data.toList = true := by decide +kernel
theorem dL_law_724 : decode cL_law 724 = .ok (.aload_n 0, 1) := fo_42 (fw_get da_cL_law_21 0 rfl)
theorem dL_law_725 : decode cL_law 725 = .ok (.iload 4, 2) := fo_21 (fw_get da_cL_law_21 1 rfl)
theorem dL_law_727 : decode cL_law 727 = .ok (.iconst 4, 1) := fo_7 (fw_get da_cL_law_21 2 rfl)
theorem dL_law_728 : decode cL_law 728 = .ok (.iadd, 1) := fo_96 (fw_get da_cL_law_21 3 rfl)
theorem dL_law_729 : decode cL_law 729 = .ok (.iaload, 1) := fo_46 (fw_get da_cL_law_21 4 rfl)
theorem dL_law_730 : decode cL_law 730 = .ok (.aload_n 3, 1) := fo_45 (fw_get da_cL_law_21 5 rfl)
theorem dL_law_731 : decode cL_law 731 = .ok (.invokestatic 91, 3) := fo_184 (fw_get da_cL_law_21 6 rfl)
theorem dL_law_734 : decode cL_law 734 = .ok (.istore 5, 2) := fo_54 (fw_get da_cL_law_21 7 rfl)
theorem dL_law_736 : decode cL_law 736 = .ok (.aload_n 2, 1) := fo_44 (fw_get da_cL_law_21 8 rfl)
theorem dL_law_737 : decode cL_law 737 = .ok (.aload_n 0, 1) := fo_42 (fw_get da_cL_law_21 9 rfl)
theorem dL_law_738 : decode cL_law 738 = .ok (.iload 4, 2) := fo_21 (fw_get da_cL_law_21 10 rfl)
theorem dL_law_740 : decode cL_law 740 = .ok (.iconst 1, 1) := fo_4 (fw_get da_cL_law_21 11 rfl)
theorem dL_law_741 : decode cL_law 741 = .ok (.iadd, 1) := fo_96 (fw_get da_cL_law_21 12 rfl)
theorem dL_law_742 : decode cL_law 742 = .ok (.iaload, 1) := fo_46 (fw_get da_cL_law_21 13 rfl)
theorem dL_law_743 : decode cL_law 743 = .ok (.aload_n 0, 1) := fo_42 (fw_get da_cL_law_21 14 rfl)
theorem dL_law_744 : decode cL_law 744 = .ok (.iload 4, 2) := fo_21 (fw_get da_cL_law_21 15 rfl)
theorem dL_law_746 : decode cL_law 746 = .ok (.iconst 2, 1) := fo_5 (fw_get da_cL_law_21 16 rfl)
theorem dL_law_747 : decode cL_law 747 = .ok (.iadd, 1) := fo_96 (fw_get da_cL_law_21 17 rfl)
theorem dL_law_748 : decode cL_law 748 = .ok (.iaload, 1) := fo_46 (fw_get da_cL_law_21 18 rfl)
theorem dL_law_749 : decode cL_law 749 = .ok (.aload_n 0, 1) := fo_42 (fw_get da_cL_law_21 19 rfl)
def dt_cL_law_22 : List (Nat × Nat × Nat × Nat) := [(750, 21, 1, 4), (752, 6, 0, 0), (753, 96, 0, 0), (754, 46, 0, 0), (755, 42, 0, 0), (756, 21, 1, 4), (758, 7, 0, 0), (759, 96, 0, 0), (760, 46, 0, 0), (761, 182, 2, 94), (764, 54, 1, 6), (766, 167, 2, 1522), (769, 43, 0, 0), (770, 42, 0, 0), (771, 21, 1, 4), (773, 4, 0, 0), (774, 96, 0, 0), (775, 46, 0, 0), (776, 42, 0, 0), (777, 21, 1, 4)]
theorem da_cL_law_22 : fw dt_cL_law_22 0 cL_law.data.toList = true := by decide +kernel
theorem dL_law_750 : decode cL_law 750 = .ok (.iload 4, 2) := fo_21 (fw_get da_cL_law_22 0 rfl)
theorem dL_law_752 : decode cL_law 752 = .ok (.iconst 3, 1) := fo_6 (fw_get da_cL_law_22 1 rfl)
theorem dL_law_753 : decode cL_law 753 = .ok (.iadd, 1) := fo_96 (fw_get da_cL_law_22 2 rfl)
theorem dL_law_754 : decode cL_law 754 = .ok (.iaload, 1) := fo_46 (fw_get da_cL_law_22 3 rfl)
theorem dL_law_755 : decode cL_law 755 = .ok (.aload_n 0, 1) := fo_42 (fw_get da_cL_law_22 4 rfl)
theorem dL_law_756 : decode cL_law 756 = .ok (.iload 4, 2) := fo_21 (fw_get da_cL_law_22 5 rfl)
theorem dL_law_758 : decode cL_law 758 = .ok (.iconst 4, 1) := fo_7 (fw_get da_cL_law_22 6 rfl)
theorem dL_law_759 : decode cL_law 759 = .ok (.iadd, 1) := fo_96 (fw_get da_cL_law_22 7 rfl)
theorem dL_law_760 : decode cL_law 760 = .ok (.iaload, 1) := fo_46 (fw_get da_cL_law_22 8 rfl)
theorem dL_law_761 : decode cL_law 761 = .ok (.invokevirtual 94, 3) := fo_182 (fw_get da_cL_law_22 9 rfl)
theorem dL_law_764 : decode cL_law 764 = .ok (.istore 6, 2) := fo_54 (fw_get da_cL_law_22 10 rfl)
theorem dL_law_766 : decode cL_law 766 = .ok (.goto 1522, 3) := fo_167 (fw_get da_cL_law_22 11 rfl) (by decide +kernel)
theorem dL_law_769 : decode cL_law 769 = .ok (.aload_n 1, 1) := fo_43 (fw_get da_cL_law_22 12 rfl)
theorem dL_law_770 : decode cL_law 770 = .ok (.aload_n 0, 1) := fo_42 (fw_get da_cL_law_22 13 rfl)
theorem dL_law_771 : decode cL_law 771 = .ok (.iload 4, 2) := fo_21 (fw_get da_cL_law_22 14 rfl)
theorem dL_law_773 : decode cL_law 773 = .ok (.iconst 1, 1) := fo_4 (fw_get da_cL_law_22 15 rfl)
theorem dL_law_774 : decode cL_law 774 = .ok (.iadd, 1) := fo_96 (fw_get da_cL_law_22 16 rfl)
theorem dL_law_775 : decode cL_law 775 = .ok (.iaload, 1) := fo_46 (fw_get da_cL_law_22 17 rfl)
theorem dL_law_776 : decode cL_law 776 = .ok (.aload_n 0, 1) := fo_42 (fw_get da_cL_law_22 18 rfl)
theorem dL_law_777 : decode cL_law 777 = .ok (.iload 4, 2) := fo_21 (fw_get da_cL_law_22 19 rfl)
def dt_cL_law_23 : List (Nat × Nat × Nat × Nat) := [(779, 5, 0, 0), (780, 96, 0, 0), (781, 46, 0, 0), (782, 182, 2, 95), (785, 87, 0, 0), (786, 44, 0, 0), (787, 42, 0, 0), (788, 21, 1, 4), (790, 4, 0, 0), (791, 96, 0, 0), (792, 46, 0, 0), (793, 42, 0, 0), (794, 21, 1, 4), (796, 5, 0, 0), (797, 96, 0, 0), (798, 46, 0, 0), (799, 182, 2, 98), (802, 87, 0, 0), (803, 167, 2, 1485), (806, 43, 0, 0)]
theorem da_cL_law_23 : fw dt_cL_law_23 0 cL_law.data.toList = true := by decide +kernel
theorem dL_law_779 : decode cL_law 779 = .ok (.iconst 2, 1) := fo_5 (fw_get da_cL_law_23 0 rfl)
theorem dL_law_780 : decode cL_law 780 = .ok (.iadd, 1) := fo_96 (fw_get da_cL_law_23 1 rfl)
theorem dL_law_781 : decode cL_law 781 = .ok (.iaload, 1) := fo_46 (fw_get da_cL_law_23 2 rfl)
theorem dL_law_782 : decode cL_law 782 = .ok (.invokevirtual 95, 3) := fo_182 (fw_get da_cL_law_23 3 rfl)
theorem dL_law_785 : decode cL_law 785 = .ok (.pop, 1) := fo_87 (fw_get da_cL_law_23 4 rfl)
theorem dL_law_786 : decode cL_law 786 = .ok (.aload_n 2, 1) := fo_44 (fw_get da_cL_law_23 5 rfl)
theorem dL_law_787 : decode cL_law 787 = .ok (.aload_n 0, 1) := fo_42 (fw_get da_cL_law_23 6 rfl)
theorem dL_law_788 : decode cL_law 788 = .ok (.iload 4, 2) := fo_21 (fw_get da_cL_law_23 7 rfl)
theorem dL_law_790 : decode cL_law 790 = .ok (.iconst 1, 1) := fo_4 (fw_get da_cL_law_23 8 rfl)
theorem dL_law_791 : decode cL_law 791 = .ok (.iadd, 1) := fo_96 (fw_get da_cL_law_23 9 rfl)
theorem dL_law_792 : decode cL_law 792 = .ok (.iaload, 1) := fo_46 (fw_get da_cL_law_23 10 rfl)
theorem dL_law_793 : decode cL_law 793 = .ok (.aload_n 0, 1) := fo_42 (fw_get da_cL_law_23 11 rfl)
theorem dL_law_794 : decode cL_law 794 = .ok (.iload 4, 2) := fo_21 (fw_get da_cL_law_23 12 rfl)
theorem dL_law_796 : decode cL_law 796 = .ok (.iconst 2, 1) := fo_5 (fw_get da_cL_law_23 13 rfl)
theorem dL_law_797 : decode cL_law 797 = .ok (.iadd, 1) := fo_96 (fw_get da_cL_law_23 14 rfl)
theorem dL_law_798 : decode cL_law 798 = .ok (.iaload, 1) := fo_46 (fw_get da_cL_law_23 15 rfl)
theorem dL_law_799 : decode cL_law 799 = .ok (.invokevirtual 98, 3) := fo_182 (fw_get da_cL_law_23 16 rfl)
theorem dL_law_802 : decode cL_law 802 = .ok (.pop, 1) := fo_87 (fw_get da_cL_law_23 17 rfl)
theorem dL_law_803 : decode cL_law 803 = .ok (.goto 1485, 3) := fo_167 (fw_get da_cL_law_23 18 rfl) (by decide +kernel)
theorem dL_law_806 : decode cL_law 806 = .ok (.aload_n 1, 1) := fo_43 (fw_get da_cL_law_23 19 rfl)
def dt_cL_law_24 : List (Nat × Nat × Nat × Nat) := [(807, 42, 0, 0), (808, 21, 1, 4), (810, 4, 0, 0), (811, 96, 0, 0), (812, 46, 0, 0), (813, 42, 0, 0), (814, 21, 1, 4), (816, 5, 0, 0), (817, 96, 0, 0), (818, 46, 0, 0)]
theorem da_cL_law_24 : fw dt_cL_law_24 0 cL_law.data.toList = true := by decide +kernel
theorem dL_law_807 : decode cL_law 807 = .ok (.aload_n 0, 1) := fo_42 (fw_get da_cL_law_24 0 rfl)
theorem dL_law_808 : decode cL_law 808 = .ok (.iload 4, 2) := fo_21 (fw_get da_cL_law_24 1 rfl)
theorem dL_law_810 : decode cL_law 810 = .ok (.iconst 1, 1) := fo_4 (fw_get da_cL_law_24 2 rfl)
theorem dL_law_811 : decode cL_law 811 = .ok (.iadd, 1) := fo_96 (fw_get da_cL_law_24 3 rfl)
theorem dL_law_812 : decode cL_law 812 = .ok (.iaload, 1) := fo_46 (fw_get da_cL_law_24 4 rfl)
theorem dL_law_813 : decode cL_law 813 = .ok (.aload_n 0, 1) := fo_42 (fw_get da_cL_law_24 5 rfl)
theorem dL_law_814 : decode cL_law 814 = .ok (.iload 4, 2) := fo_21 (fw_get da_cL_law_24 6 rfl)
theorem dL_law_816 : decode cL_law 816 = .ok (.iconst 2, 1) := fo_5 (fw_get da_cL_law_24 7 rfl)
theorem dL_law_817 : decode cL_law 817 = .ok (.iadd, 1) := fo_96 (fw_get da_cL_law_24 8 rfl)
theorem dL_law_818 : decode cL_law 818 = .ok (.iaload, 1) := fo_46 (fw_get da_cL_law_24 9 rfl)


def dt_cL_law_25 : List (Nat × Nat × Nat × Nat) := [(819, 182, 2, 99), (822, 87, 0, 0), (823, 44, 0, 0), (824, 42, 0, 0), (825, 21, 1, 4), (827, 4, 0, 0), (828, 96, 0, 0), (829, 46, 0, 0), (830, 42, 0, 0), (831, 21, 1, 4), (833, 5, 0, 0), (834, 96, 0, 0), (835, 46, 0, 0), (836, 182, 2, 102), (839, 87, 0, 0), (840, 167, 2, 1448), (843, 43, 0, 0), (844, 42, 0, 0), (845, 21, 1, 4), (847, 4, 0, 0)]
theorem da_cL_law_25 : fw dt_cL_law_25 0 cL_law.data.toList = true := by decide +kernel
theorem dL_law_819 : decode cL_law 819 = .ok (.invokevirtual 99, 3) := fo_182 (fw_get da_cL_law_25 0 rfl)
theorem dL_law_822 : decode cL_law 822 = .ok (.pop, 1) := fo_87 (fw_get da_cL_law_25 1 rfl)
theorem dL_law_823 : decode cL_law 823 = .ok (.aload_n 2, 1) := fo_44 (fw_get da_cL_law_25 2 rfl)
theorem dL_law_824 : decode cL_law 824 = .ok (.aload_n 0, 1) := fo_42 (fw_get da_cL_law_25 3 rfl)
theorem dL_law_825 : decode cL_law 825 = .ok (.iload 4, 2) := fo_21 (fw_get da_cL_law_25 4 rfl)
theorem dL_law_827 : decode cL_law 827 = .ok (.iconst 1, 1) := fo_4 (fw_get da_cL_law_25 5 rfl)
theorem dL_law_828 : decode cL_law 828 = .ok (.iadd, 1) := fo_96 (fw_get da_cL_law_25 6 rfl)
theorem dL_law_829 : decode cL_law 829 = .ok (.iaload, 1) := fo_46 (fw_get da_cL_law_25 7 rfl)
theorem dL_law_830 : decode cL_law 830 = .ok (.aload_n 0, 1) := fo_42 (fw_get da_cL_law_25 8 rfl)
theorem dL_law_831 : decode cL_law 831 = .ok (.iload 4, 2) := fo_21 (fw_get da_cL_law_25 9 rfl)
theorem dL_law_833 : decode cL_law 833 = .ok (.iconst 2, 1) := fo_5 (fw_get da_cL_law_25 10 rfl)
theorem dL_law_834 : decode cL_law 834 = .ok (.iadd, 1) := fo_96 (fw_get da_cL_law_25 11 rfl)
theorem dL_law_835 : decode cL_law 835 = .ok (.iaload, 1) := fo_46 (fw_get da_cL_law_25 12 rfl)
theorem dL_law_836 : decode cL_law 836 = .ok (.invokevirtual 102, 3) := fo_182 (fw_get da_cL_law_25 13 rfl)
theorem dL_law_839 : decode cL_law 839 = .ok (.pop, 1) := fo_87 (fw_get da_cL_law_25 14 rfl)
theorem dL_law_840 : decode cL_law 840 = .ok (.goto 1448, 3) := fo_167 (fw_get da_cL_law_25 15 rfl) (by decide +kernel)
theorem dL_law_843 : decode cL_law 843 = .ok (.aload_n 1, 1) := fo_43 (fw_get da_cL_law_25 16 rfl)
theorem dL_law_844 : decode cL_law 844 = .ok (.aload_n 0, 1) := fo_42 (fw_get da_cL_law_25 17 rfl)
theorem dL_law_845 : decode cL_law 845 = .ok (.iload 4, 2) := fo_21 (fw_get da_cL_law_25 18 rfl)
theorem dL_law_847 : decode cL_law 847 = .ok (.iconst 1, 1) := fo_4 (fw_get da_cL_law_25 19 rfl)
def dt_cL_law_26 : List (Nat × Nat × Nat × Nat) := [(848, 96, 0, 0), (849, 46, 0, 0), (850, 42, 0, 0), (851, 21, 1, 4), (853, 5, 0, 0), (854, 96, 0, 0), (855, 46, 0, 0), (856, 42, 0, 0), (857, 21, 1, 4), (859, 6, 0, 0), (860, 96, 0, 0), (861, 46, 0, 0), (862, 182, 2, 103), (865, 87, 0, 0), (866, 44, 0, 0), (867, 42, 0, 0), (868, 21, 1, 4), (870, 4, 0, 0), (871, 96, 0, 0), (872, 46, 0, 0)]
theorem da_cL_law_26 : fw dt_cL_law_26 0 cL_law.data.toList = true := by decide +kernel
theorem dL_law_848 : decode cL_law 848 = .ok (.iadd, 1) := fo_96 (fw_get da_cL_law_26 0 rfl)
theorem dL_law_849 : decode cL_law 849 = .ok (.iaload, 1) := fo_46 (fw_get da_cL_law_26 1 rfl)
theorem dL_law_850 : decode cL_law 850 = .ok (.aload_n 0, 1) := fo_42 (fw_get da_cL_law_26 2 rfl)
theorem dL_law_851 : decode cL_law 851 = .ok (.iload 4, 2) := fo_21 (fw_get da_cL_law_26 3 rfl)
theorem dL_law_853 : decode cL_law 853 = .ok (.iconst 2, 1) := fo_5 (fw_get da_cL_law_26 4 rfl)
theorem dL_law_854 : decode cL_law 854 = .ok (.iadd, 1) := fo_96 (fw_get da_cL_law_26 5 rfl)
theorem dL_law_855 : decode cL_law 855 = .ok (.iaload, 1) := fo_46 (fw_get da_cL_law_26 6 rfl)
theorem dL_law_856 : decode cL_law 856 = .ok (.aload_n 0, 1) := fo_42 (fw_get da_cL_law_26 7 rfl)
theorem dL_law_857 : decode cL_law 857 = .ok (.iload 4, 2) := fo_21 (fw_get da_cL_law_26 8 rfl)
theorem dL_law_859 : decode cL_law 859 = .ok (.iconst 3, 1) := fo_6 (fw_get da_cL_law_26 9 rfl)
theorem dL_law_860 : decode cL_law 860 = .ok (.iadd, 1) := fo_96 (fw_get da_cL_law_26 10 rfl)
theorem dL_law_861 : decode cL_law 861 = .ok (.iaload, 1) := fo_46 (fw_get da_cL_law_26 11 rfl)
theorem dL_law_862 : decode cL_law 862 = .ok (.invokevirtual 103, 3) := fo_182 (fw_get da_cL_law_26 12 rfl)
theorem dL_law_865 : decode cL_law 865 = .ok (.pop, 1) := fo_87 (fw_get da_cL_law_26 13 rfl)
theorem dL_law_866 : decode cL_law 866 = .ok (.aload_n 2, 1) := fo_44 (fw_get da_cL_law_26 14 rfl)
theorem dL_law_867 : decode cL_law 867 = .ok (.aload_n 0, 1) := fo_42 (fw_get da_cL_law_26 15 rfl)
theorem dL_law_868 : decode cL_law 868 = .ok (.iload 4, 2) := fo_21 (fw_get da_cL_law_26 16 rfl)
theorem dL_law_870 : decode cL_law 870 = .ok (.iconst 1, 1) := fo_4 (fw_get da_cL_law_26 17 rfl)
theorem dL_law_871 : decode cL_law 871 = .ok (.iadd, 1) := fo_96 (fw_get da_cL_law_26 18 rfl)
theorem dL_law_872 : decode cL_law 872 = .ok (.iaload, 1) := fo_46 (fw_get da_cL_law_26 19 rfl)
def dt_cL_law_27 : List (Nat × Nat × Nat × Nat) := [(873, 42, 0, 0), (874, 21, 1, 4), (876, 5, 0, 0), (877, 96, 0, 0), (878, 46, 0, 0), (879, 42, 0, 0), (880, 21, 1, 4), (882, 6, 0, 0), (883, 96, 0, 0), (884, 46, 0, 0), (885, 182, 2, 106), (888, 87, 0, 0), (889, 167, 2, 1399), (892, 43, 0, 0), (893, 42, 0, 0), (894, 21, 1, 4), (896, 4, 0, 0), (897, 96, 0, 0), (898, 46, 0, 0), (899, 182, 2, 107)]
theorem da_cL_law_27 : fw dt_cL_law_27 0 cL_law.data.toList = true := by decide +kernel
theorem dL_law_873 : decode cL_law 873 = .ok (.aload_n 0, 1) := fo_42 (fw_get da_cL_law_27 0 rfl)
theorem dL_law_874 : decode cL_law 874 = .ok (.iload 4, 2) := fo_21 (fw_get da_cL_law_27 1 rfl)
theorem dL_law_876 : decode cL_law 876 = .ok (.iconst 2, 1) := fo_5 (fw_get da_cL_law_27 2 rfl)
theorem dL_law_877 : decode cL_law 877 = .ok (.iadd, 1) := fo_96 (fw_get da_cL_law_27 3 rfl)
theorem dL_law_878 : decode cL_law 878 = .ok (.iaload, 1) := fo_46 (fw_get da_cL_law_27 4 rfl)
theorem dL_law_879 : decode cL_law 879 = .ok (.aload_n 0, 1) := fo_42 (fw_get da_cL_law_27 5 rfl)
theorem dL_law_880 : decode cL_law 880 = .ok (.iload 4, 2) := fo_21 (fw_get da_cL_law_27 6 rfl)
theorem dL_law_882 : decode cL_law 882 = .ok (.iconst 3, 1) := fo_6 (fw_get da_cL_law_27 7 rfl)
theorem dL_law_883 : decode cL_law 883 = .ok (.iadd, 1) := fo_96 (fw_get da_cL_law_27 8 rfl)
theorem dL_law_884 : decode cL_law 884 = .ok (.iaload, 1) := fo_46 (fw_get da_cL_law_27 9 rfl)
theorem dL_law_885 : decode cL_law 885 = .ok (.invokevirtual 106, 3) := fo_182 (fw_get da_cL_law_27 10 rfl)
theorem dL_law_888 : decode cL_law 888 = .ok (.pop, 1) := fo_87 (fw_get da_cL_law_27 11 rfl)
theorem dL_law_889 : decode cL_law 889 = .ok (.goto 1399, 3) := fo_167 (fw_get da_cL_law_27 12 rfl) (by decide +kernel)
theorem dL_law_892 : decode cL_law 892 = .ok (.aload_n 1, 1) := fo_43 (fw_get da_cL_law_27 13 rfl)
theorem dL_law_893 : decode cL_law 893 = .ok (.aload_n 0, 1) := fo_42 (fw_get da_cL_law_27 14 rfl)
theorem dL_law_894 : decode cL_law 894 = .ok (.iload 4, 2) := fo_21 (fw_get da_cL_law_27 15 rfl)
theorem dL_law_896 : decode cL_law 896 = .ok (.iconst 1, 1) := fo_4 (fw_get da_cL_law_27 16 rfl)
theorem dL_law_897 : decode cL_law 897 = .ok (.iadd, 1) := fo_96 (fw_get da_cL_law_27 17 rfl)
theorem dL_law_898 : decode cL_law 898 = .ok (.iaload, 1) := fo_46 (fw_get da_cL_law_27 18 rfl)
theorem dL_law_899 : decode cL_law 899 = .ok (.invokevirtual 107, 3) := fo_182 (fw_get da_cL_law_27 19 rfl)
def dt_cL_law_28 : List (Nat × Nat × Nat × Nat) := [(902, 87, 0, 0), (903, 44, 0, 0), (904, 42, 0, 0), (905, 21, 1, 4), (907, 4, 0, 0), (908, 96, 0, 0), (909, 46, 0, 0), (910, 182, 2, 110), (913, 87, 0, 0), (914, 167, 2, 1374), (917, 43, 0, 0), (918, 42, 0, 0), (919, 21, 1, 4), (921, 4, 0, 0), (922, 96, 0, 0), (923, 46, 0, 0), (924, 42, 0, 0), (925, 21, 1, 4), (927, 5, 0, 0), (928, 96, 0, 0)]
theorem da_cL_law_28 : fw dt_cL_law_28 0 cL_law.data.toList = true := by decide +kernel
theorem dL_law_902 : decode cL_law 902 = .ok (.pop, 1) := fo_87 (fw_get da_cL_law_28 0 rfl)
theorem dL_law_903 : decode cL_law 903 = .ok (.aload_n 2, 1) := fo_44 (fw_get da_cL_law_28 1 rfl)
theorem dL_law_904 : decode cL_law 904 = .ok (.aload_n 0, 1) := fo_42 (fw_get da_cL_law_28 2 rfl)
theorem dL_law_905 : decode cL_law 905 = .ok (.iload 4, 2) := fo_21 (fw_get da_cL_law_28 3 rfl)
theorem dL_law_907 : decode cL_law 907 = .ok (.iconst 1, 1) := fo_4 (fw_get da_cL_law_28 4 rfl)
theorem dL_law_908 : decode cL_law 908 = .ok (.iadd, 1) := fo_96 (fw_get da_cL_law_28 5 rfl)
theorem dL_law_909 : decode cL_law 909 = .ok (.iaload, 1) := fo_46 (fw_get da_cL_law_28 6 rfl)
theorem dL_law_910 : decode cL_law 910 = .ok (.invokevirtual 110, 3) := fo_182 (fw_get da_cL_law_28 7 rfl)
theorem dL_law_913 : decode cL_law 913 = .ok (.pop, 1) := fo_87 (fw_get da_cL_law_28 8 rfl)
theorem dL_law_914 : decode cL_law 914 = .ok (.goto 1374, 3) := fo_167 (fw_get da_cL_law_28 9 rfl) (by decide +kernel)
theorem dL_law_917 : decode cL_law 917 = .ok (.aload_n 1, 1) := fo_43 (fw_get da_cL_law_28 10 rfl)
theorem dL_law_918 : decode cL_law 918 = .ok (.aload_n 0, 1) := fo_42 (fw_get da_cL_law_28 11 rfl)
theorem dL_law_919 : decode cL_law 919 = .ok (.iload 4, 2) := fo_21 (fw_get da_cL_law_28 12 rfl)
theorem dL_law_921 : decode cL_law 921 = .ok (.iconst 1, 1) := fo_4 (fw_get da_cL_law_28 13 rfl)
theorem dL_law_922 : decode cL_law 922 = .ok (.iadd, 1) := fo_96 (fw_get da_cL_law_28 14 rfl)
theorem dL_law_923 : decode cL_law 923 = .ok (.iaload, 1) := fo_46 (fw_get da_cL_law_28 15 rfl)
theorem dL_law_924 : decode cL_law 924 = .ok (.aload_n 0, 1) := fo_42 (fw_get da_cL_law_28 16 rfl)
theorem dL_law_925 : decode cL_law 925 = .ok (.iload 4, 2) := fo_21 (fw_get da_cL_law_28 17 rfl)
theorem dL_law_927 : decode cL_law 927 = .ok (.iconst 2, 1) := fo_5 (fw_get da_cL_law_28 18 rfl)
theorem dL_law_928 : decode cL_law 928 = .ok (.iadd, 1) := fo_96 (fw_get da_cL_law_28 19 rfl)
def dt_cL_law_29 : List (Nat × Nat × Nat × Nat) := [(929, 46, 0, 0), (930, 182, 2, 111), (933, 87, 0, 0), (934, 44, 0, 0), (935, 42, 0, 0), (936, 21, 1, 4), (938, 4, 0, 0), (939, 96, 0, 0), (940, 46, 0, 0), (941, 42, 0, 0), (942, 21, 1, 4), (944, 5, 0, 0), (945, 96, 0, 0), (946, 46, 0, 0), (947, 182, 2, 114), (950, 87, 0, 0), (951, 167, 2, 1337), (954, 43, 0, 0), (955, 42, 0, 0), (956, 21, 1, 4)]
theorem da_cL_law_29 : fw dt_cL_law_29 0 cL_law.data.toList = true := by decide +kernel
theorem dL_law_929 : decode cL_law 929 = .ok (.iaload, 1) := fo_46 (fw_get da_cL_law_29 0 rfl)
theorem dL_law_930 : decode cL_law 930 = .ok (.invokevirtual 111, 3) := fo_182 (fw_get da_cL_law_29 1 rfl)
theorem dL_law_933 : decode cL_law 933 = .ok (.pop, 1) := fo_87 (fw_get da_cL_law_29 2 rfl)
theorem dL_law_934 : decode cL_law 934 = .ok (.aload_n 2, 1) := fo_44 (fw_get da_cL_law_29 3 rfl)
theorem dL_law_935 : decode cL_law 935 = .ok (.aload_n 0, 1) := fo_42 (fw_get da_cL_law_29 4 rfl)
theorem dL_law_936 : decode cL_law 936 = .ok (.iload 4, 2) := fo_21 (fw_get da_cL_law_29 5 rfl)
theorem dL_law_938 : decode cL_law 938 = .ok (.iconst 1, 1) := fo_4 (fw_get da_cL_law_29 6 rfl)
theorem dL_law_939 : decode cL_law 939 = .ok (.iadd, 1) := fo_96 (fw_get da_cL_law_29 7 rfl)
theorem dL_law_940 : decode cL_law 940 = .ok (.iaload, 1) := fo_46 (fw_get da_cL_law_29 8 rfl)
theorem dL_law_941 : decode cL_law 941 = .ok (.aload_n 0, 1) := fo_42 (fw_get da_cL_law_29 9 rfl)
theorem dL_law_942 : decode cL_law 942 = .ok (.iload 4, 2) := fo_21 (fw_get da_cL_law_29 10 rfl)
theorem dL_law_944 : decode cL_law 944 = .ok (.iconst 2, 1) := fo_5 (fw_get da_cL_law_29 11 rfl)
theorem dL_law_945 : decode cL_law 945 = .ok (.iadd, 1) := fo_96 (fw_get da_cL_law_29 12 rfl)
theorem dL_law_946 : decode cL_law 946 = .ok (.iaload, 1) := fo_46 (fw_get da_cL_law_29 13 rfl)
theorem dL_law_947 : decode cL_law 947 = .ok (.invokevirtual 114, 3) := fo_182 (fw_get da_cL_law_29 14 rfl)
theorem dL_law_950 : decode cL_law 950 = .ok (.pop, 1) := fo_87 (fw_get da_cL_law_29 15 rfl)
theorem dL_law_951 : decode cL_law 951 = .ok (.goto 1337, 3) := fo_167 (fw_get da_cL_law_29 16 rfl) (by decide +kernel)
theorem dL_law_954 : decode cL_law 954 = .ok (.aload_n 1, 1) := fo_43 (fw_get da_cL_law_29 17 rfl)
theorem dL_law_955 : decode cL_law 955 = .ok (.aload_n 0, 1) := fo_42 (fw_get da_cL_law_29 18 rfl)
theorem dL_law_956 : decode cL_law 956 = .ok (.iload 4, 2) := fo_21 (fw_get da_cL_law_29 19 rfl)
def dt_cL_law_30 : List (Nat × Nat × Nat × Nat) := [(958, 4, 0, 0), (959, 96, 0, 0), (960, 46, 0, 0), (961, 42, 0, 0), (962, 21, 1, 4), (964, 5, 0, 0), (965, 96, 0, 0), (966, 46, 0, 0), (967, 42, 0, 0), (968, 21, 1, 4), (970, 6, 0, 0), (971, 96, 0, 0), (972, 46, 0, 0), (973, 42, 0, 0), (974, 21, 1, 4), (976, 7, 0, 0), (977, 96, 0, 0), (978, 46, 0, 0), (979, 182, 2, 115), (982, 87, 0, 0)]
theorem da_cL_law_30 : fw dt_cL_law_30 0 cL_law.data.toList = true := by decide +kernel
theorem dL_law_958 : decode cL_law 958 = .ok (.iconst 1, 1) := fo_4 (fw_get da_cL_law_30 0 rfl)
theorem dL_law_959 : decode cL_law 959 = .ok (.iadd, 1) := fo_96 (fw_get da_cL_law_30 1 rfl)
theorem dL_law_960 : decode cL_law 960 = .ok (.iaload, 1) := fo_46 (fw_get da_cL_law_30 2 rfl)
theorem dL_law_961 : decode cL_law 961 = .ok (.aload_n 0, 1) := fo_42 (fw_get da_cL_law_30 3 rfl)
theorem dL_law_962 : decode cL_law 962 = .ok (.iload 4, 2) := fo_21 (fw_get da_cL_law_30 4 rfl)
theorem dL_law_964 : decode cL_law 964 = .ok (.iconst 2, 1) := fo_5 (fw_get da_cL_law_30 5 rfl)
theorem dL_law_965 : decode cL_law 965 = .ok (.iadd, 1) := fo_96 (fw_get da_cL_law_30 6 rfl)
theorem dL_law_966 : decode cL_law 966 = .ok (.iaload, 1) := fo_46 (fw_get da_cL_law_30 7 rfl)
theorem dL_law_967 : decode cL_law 967 = .ok (.aload_n 0, 1) := fo_42 (fw_get da_cL_law_30 8 rfl)
theorem dL_law_968 : decode cL_law 968 = .ok (.iload 4, 2) := fo_21 (fw_get da_cL_law_30 9 rfl)
theorem dL_law_970 : decode cL_law 970 = .ok (.iconst 3, 1) := fo_6 (fw_get da_cL_law_30 10 rfl)
theorem dL_law_971 : decode cL_law 971 = .ok (.iadd, 1) := fo_96 (fw_get da_cL_law_30 11 rfl)
theorem dL_law_972 : decode cL_law 972 = .ok (.iaload, 1) := fo_46 (fw_get da_cL_law_30 12 rfl)
theorem dL_law_973 : decode cL_law 973 = .ok (.aload_n 0, 1) := fo_42 (fw_get da_cL_law_30 13 rfl)
theorem dL_law_974 : decode cL_law 974 = .ok (.iload 4, 2) := fo_21 (fw_get da_cL_law_30 14 rfl)
theorem dL_law_976 : decode cL_law 976 = .ok (.iconst 4, 1) := fo_7 (fw_get da_cL_law_30 15 rfl)
theorem dL_law_977 : decode cL_law 977 = .ok (.iadd, 1) := fo_96 (fw_get da_cL_law_30 16 rfl)
theorem dL_law_978 : decode cL_law 978 = .ok (.iaload, 1) := fo_46 (fw_get da_cL_law_30 17 rfl)
theorem dL_law_979 : decode cL_law 979 = .ok (.invokevirtual 115, 3) := fo_182 (fw_get da_cL_law_30 18 rfl)
theorem dL_law_982 : decode cL_law 982 = .ok (.pop, 1) := fo_87 (fw_get da_cL_law_30 19 rfl)
def dt_cL_law_31 : List (Nat × Nat × Nat × Nat) := [(983, 44, 0, 0), (984, 42, 0, 0), (985, 21, 1, 4), (987, 4, 0, 0), (988, 96, 0, 0), (989, 46, 0, 0), (990, 42, 0, 0), (991, 21, 1, 4), (993, 5, 0, 0), (994, 96, 0, 0), (995, 46, 0, 0), (996, 42, 0, 0), (997, 21, 1, 4), (999, 6, 0, 0), (1000, 96, 0, 0), (1001, 46, 0, 0), (1002, 42, 0, 0), (1003, 21, 1, 4), (1005, 7, 0, 0), (1006, 96, 0, 0)]
theorem da_cL_law_31 : fw dt_cL_law_31 0 cL_law.data.toList = true := by decide +kernel
theorem dL_law_983 : decode cL_law 983 = .ok (.aload_n 2, 1) := fo_44 (fw_get da_cL_law_31 0 rfl)
theorem dL_law_984 : decode cL_law 984 = .ok (.aload_n 0, 1) := fo_42 (fw_get da_cL_law_31 1 rfl)
theorem dL_law_985 : decode cL_law 985 = .ok (.iload 4, 2) := fo_21 (fw_get da_cL_law_31 2 rfl)
theorem dL_law_987 : decode cL_law 987 = .ok (.iconst 1, 1) := fo_4 (fw_get da_cL_law_31 3 rfl)
theorem dL_law_988 : decode cL_law 988 = .ok (.iadd, 1) := fo_96 (fw_get da_cL_law_31 4 rfl)
theorem dL_law_989 : decode cL_law 989 = .ok (.iaload, 1) := fo_46 (fw_get da_cL_law_31 5 rfl)
theorem dL_law_990 : decode cL_law 990 = .ok (.aload_n 0, 1) := fo_42 (fw_get da_cL_law_31 6 rfl)
theorem dL_law_991 : decode cL_law 991 = .ok (.iload 4, 2) := fo_21 (fw_get da_cL_law_31 7 rfl)
theorem dL_law_993 : decode cL_law 993 = .ok (.iconst 2, 1) := fo_5 (fw_get da_cL_law_31 8 rfl)
theorem dL_law_994 : decode cL_law 994 = .ok (.iadd, 1) := fo_96 (fw_get da_cL_law_31 9 rfl)
theorem dL_law_995 : decode cL_law 995 = .ok (.iaload, 1) := fo_46 (fw_get da_cL_law_31 10 rfl)
theorem dL_law_996 : decode cL_law 996 = .ok (.aload_n 0, 1) := fo_42 (fw_get da_cL_law_31 11 rfl)
theorem dL_law_997 : decode cL_law 997 = .ok (.iload 4, 2) := fo_21 (fw_get da_cL_law_31 12 rfl)
theorem dL_law_999 : decode cL_law 999 = .ok (.iconst 3, 1) := fo_6 (fw_get da_cL_law_31 13 rfl)
theorem dL_law_1000 : decode cL_law 1000 = .ok (.iadd, 1) := fo_96 (fw_get da_cL_law_31 14 rfl)
theorem dL_law_1001 : decode cL_law 1001 = .ok (.iaload, 1) := fo_46 (fw_get da_cL_law_31 15 rfl)
theorem dL_law_1002 : decode cL_law 1002 = .ok (.aload_n 0, 1) := fo_42 (fw_get da_cL_law_31 16 rfl)
theorem dL_law_1003 : decode cL_law 1003 = .ok (.iload 4, 2) := fo_21 (fw_get da_cL_law_31 17 rfl)
theorem dL_law_1005 : decode cL_law 1005 = .ok (.iconst 4, 1) := fo_7 (fw_get da_cL_law_31 18 rfl)
theorem dL_law_1006 : decode cL_law 1006 = .ok (.iadd, 1) := fo_96 (fw_get da_cL_law_31 19 rfl)
def dt_cL_law_32 : List (Nat × Nat × Nat × Nat) := [(1007, 46, 0, 0), (1008, 182, 2, 118), (1011, 87, 0, 0), (1012, 167, 2, 1276), (1015, 43, 0, 0), (1016, 42, 0, 0), (1017, 21, 1, 4), (1019, 4, 0, 0), (1020, 96, 0, 0), (1021, 46, 0, 0)]
theorem da_cL_law_32 : fw dt_cL_law_32 0 cL_law.data.toList = true := by decide +kernel
theorem dL_law_1007 : decode cL_law 1007 = .ok (.iaload, 1) := fo_46 (fw_get da_cL_law_32 0 rfl)
theorem dL_law_1008 : decode cL_law 1008 = .ok (.invokevirtual 118, 3) := fo_182 (fw_get da_cL_law_32 1 rfl)
theorem dL_law_1011 : decode cL_law 1011 = .ok (.pop, 1) := fo_87 (fw_get da_cL_law_32 2 rfl)
theorem dL_law_1012 : decode cL_law 1012 = .ok (.goto 1276, 3) := fo_167 (fw_get da_cL_law_32 3 rfl) (by decide +kernel)
theorem dL_law_1015 : decode cL_law 1015 = .ok (.aload_n 1, 1) := fo_43 (fw_get da_cL_law_32 4 rfl)
theorem dL_law_1016 : decode cL_law 1016 = .ok (.aload_n 0, 1) := fo_42 (fw_get da_cL_law_32 5 rfl)
theorem dL_law_1017 : decode cL_law 1017 = .ok (.iload 4, 2) := fo_21 (fw_get da_cL_law_32 6 rfl)
theorem dL_law_1019 : decode cL_law 1019 = .ok (.iconst 1, 1) := fo_4 (fw_get da_cL_law_32 7 rfl)
theorem dL_law_1020 : decode cL_law 1020 = .ok (.iadd, 1) := fo_96 (fw_get da_cL_law_32 8 rfl)
theorem dL_law_1021 : decode cL_law 1021 = .ok (.iaload, 1) := fo_46 (fw_get da_cL_law_32 9 rfl)

