abbrev cX2_renew : ByteArray := prog_4_method_5_code
def yX2_renew : MethodName := ⟨RX2, "renew", "(II)I"⟩
abbrev cX2_putTogether : ByteArray := prog_4_method_6_code
def yX2_putTogether : MethodName := ⟨RX2, "putTogether", "(I)V"⟩
abbrev cX2_joinNode : ByteArray := prog_4_method_7_code
def yX2_joinNode : MethodName := ⟨RX2, "joinNode", "(LMajorityIndex$Votes;I)V"⟩
abbrev cX2_isJoined : ByteArray := prog_4_method_8_code
def yX2_isJoined : MethodName := ⟨RX2, "isJoined", "(I)Z"⟩
abbrev cX2_keepJoined : ByteArray := prog_4_method_9_code
def yX2_keepJoined : MethodName := ⟨RX2, "keepJoined", "(I)V"⟩
abbrev cX2_copyTo : ByteArray := prog_4_method_10_code
def yX2_copyTo : MethodName := ⟨RX2, "copyTo", "(LMajorityIndex$Votes;I)V"⟩
abbrev cX2_find : ByteArray := prog_4_method_11_code
def yX2_find : MethodName := ⟨RX2, "find", "(II)I"⟩
abbrev cX2_isPart : ByteArray := prog_4_method_12_code
def yX2_isPart : MethodName := ⟨RX2, "isPart", "(III)Z"⟩
abbrev cX2_gather : ByteArray := prog_4_method_13_code
def yX2_gather : MethodName := ⟨RX2, "gather", "(LMajorityIndex$Votes;II)V"⟩
abbrev cX2_hasPlace : ByteArray := prog_4_method_14_code
def yX2_hasPlace : MethodName := ⟨RX2, "hasPlace", "(II)Z"⟩
abbrev cX2_depthAt : ByteArray := prog_4_method_15_code
def yX2_depthAt : MethodName := ⟨RX2, "depthAt", "(I)I"⟩
abbrev cX2_onPath : ByteArray := prog_4_method_16_code
def yX2_onPath : MethodName := ⟨RX2, "onPath", "(II)I"⟩
abbrev cX2_numberIn : ByteArray := prog_4_method_17_code
def yX2_numberIn : MethodName := ⟨RX2, "numberIn", "(II)I"⟩
abbrev cX2_holding : ByteArray := prog_4_method_18_code
def yX2_holding : MethodName := ⟨RX2, "holding", "(I)I"⟩
abbrev cX2_nodesWithMajority : ByteArray := prog_4_method_19_code
def yX2_nodesWithMajority : MethodName := ⟨RX2, "nodesWithMajority", "()I"⟩
abbrev cX2_deepest : ByteArray := prog_4_method_20_code
def yX2_deepest : MethodName := ⟨RX2, "deepest", "()I"⟩
abbrev cX2_allLosses : ByteArray := prog_4_method_21_code
def yX2_allLosses : MethodName := ⟨RX2, "allLosses", "()I"⟩
def wsX2_joinNode : List Cond := .code yX2_joinNode cX2_joinNode 5 none :: ([.fieldLink RX2 25 "MajorityIndex$Tree" "size" "[I", .fieldLink RX2 34 "MajorityIndex$Tree" "value" "[I", .fieldLink RX2 37 "MajorityIndex$Tree" "number" "[I", .fieldLink RX2 91 "MajorityIndex$Votes" "lost" "I", .fieldLink RX2 28 "MajorityIndex$Tree" "lossOf" "[I", .methodLink RX2 77 yX3_add, .instanceMethod yX3_add, .selects RX3 yX3_add yX3_add, .initialized RX3, .code yX3_add cX3_add 4 none, .fieldLink RX3 18 "MajorityIndex$Votes" "size" "I", .fieldLink RX3 9 "MajorityIndex$Votes" "value" "[I", .fieldLink RX3 15 "MajorityIndex$Votes" "number" "[I"] ++ wsX20 ++ wsX30)
def wsX2_putTogether_r1 : List Cond := [Cond.fieldLink RX2 12 "MajorityIndex$Tree" "joined" "LMajorityIndex$Votes;", Cond.fieldLink RX2 22 "MajorityIndex$Tree" "to" "[I", Cond.fieldLink RX2 18 "MajorityIndex$Tree" "from" "[I", Cond.fieldLink RX2 40 "MajorityIndex$Tree" "row" "LMajorityIndex$Row;", Cond.fieldLink RX2 74 "MajorityIndex$Row" "cell" "[I", Cond.fieldLink RX2 85 "MajorityIndex$Tree" "slotsHere" "I", Cond.methodLink RX2 71 yX3_clear, Cond.instanceMethod yX3_clear, Cond.selects RX3 yX3_clear yX3_clear, Cond.initialized RX3, Cond.code yX3_clear cX3_clear 1 none, Cond.fieldLink RX3 18 "MajorityIndex$Votes" "size" "I", Cond.fieldLink RX3 22 "MajorityIndex$Votes" "lost" "I", Cond.fieldLink RX3 25 "MajorityIndex$Votes" "lessBy" "I", Cond.methodLink RX2 77 yX3_add, Cond.instanceMethod yX3_add, Cond.selects RX3 yX3_add yX3_add, Cond.code yX3_add cX3_add 4 none, Cond.fieldLink RX3 9 "MajorityIndex$Votes" "value" "[I", Cond.fieldLink RX3 15 "MajorityIndex$Votes" "number" "[I", Cond.methodLink RX2 81 yX2_joinNode, Cond.instanceMethod yX2_joinNode, Cond.selects RX2 yX2_joinNode yX2_joinNode, Cond.initialized RX2]
def wsX2_putTogether_r2 : List Cond := [Cond.code yX2_joinNode cX2_joinNode 5 none, Cond.fieldLink RX2 25 "MajorityIndex$Tree" "size" "[I", Cond.fieldLink RX2 34 "MajorityIndex$Tree" "value" "[I", Cond.fieldLink RX2 37 "MajorityIndex$Tree" "number" "[I", Cond.fieldLink RX2 91 "MajorityIndex$Votes" "lost" "I", Cond.fieldLink RX2 28 "MajorityIndex$Tree" "lossOf" "[I", Cond.methodLink RX2 57 yX2_rightBelow, Cond.instanceMethod yX2_rightBelow, Cond.selects RX2 yX2_rightBelow yX2_rightBelow, Cond.code yX2_rightBelow cX2_rightBelow 3 (some .int), Cond.methodLink RX2 88 yX3_cancel, Cond.instanceMethod yX3_cancel, Cond.selects RX3 yX3_cancel yX3_cancel, Cond.code yX3_cancel cX3_cancel 4 none, Cond.methodLink RX3 32 yX3_order, Cond.instanceMethod yX3_order, Cond.selects RX3 yX3_order yX3_order, Cond.code yX3_order cX3_order 3 none, Cond.methodLink RX3 35 yX3_isAhead, Cond.instanceMethod yX3_isAhead, Cond.selects RX3 yX3_isAhead yX3_isAhead, Cond.code yX3_isAhead cX3_isAhead 3 (some .boolean), Cond.methodLink RX3 39 yX3_exchange, Cond.instanceMethod yX3_exchange]
def wsX2_putTogether_r3 : List Cond := [Cond.selects RX3 yX3_exchange yX3_exchange, Cond.code yX3_exchange cX3_exchange 5 none]
def wsX2_putTogether : List Cond := .code yX2_putTogether cX2_putTogether 2 none :: ((wsX2_putTogether_r1 ++ (wsX2_putTogether_r2 ++ wsX2_putTogether_r3)) ++ wsX20 ++ wsX00 ++ wsX30)
def wsX2_isJoined : List Cond := .code yX2_isJoined cX2_isJoined 4 (some .boolean) :: ([.fieldLink RX2 25 "MajorityIndex$Tree" "size" "[I", .fieldLink RX2 12 "MajorityIndex$Tree" "joined" "LMajorityIndex$Votes;", .fieldLink RX2 94 "MajorityIndex$Votes" "size" "I", .fieldLink RX2 28 "MajorityIndex$Tree" "lossOf" "[I", .fieldLink RX2 91 "MajorityIndex$Votes" "lost" "I", .fieldLink RX2 34 "MajorityIndex$Tree" "value" "[I", .fieldLink RX2 96 "MajorityIndex$Votes" "value" "[I", .fieldLink RX2 37 "MajorityIndex$Tree" "number" "[I", .fieldLink RX2 97 "MajorityIndex$Votes" "number" "[I"] ++ wsX20 ++ wsX30)
def wsX2_keepJoined : List Cond := .code yX2_keepJoined cX2_keepJoined 4 none :: ([.fieldLink RX2 12 "MajorityIndex$Tree" "joined" "LMajorityIndex$Votes;", .fieldLink RX2 94 "MajorityIndex$Votes" "size" "I", .fieldLink RX2 34 "MajorityIndex$Tree" "value" "[I", .fieldLink RX2 96 "MajorityIndex$Votes" "value" "[I", .fieldLink RX2 37 "MajorityIndex$Tree" "number" "[I", .fieldLink RX2 97 "MajorityIndex$Votes" "number" "[I", .fieldLink RX2 25 "MajorityIndex$Tree" "size" "[I", .methodLink RX2 98 Lib.Math.min.name, .static Lib.Math.min.name, .initialized "java/lang/Math", .code Lib.Math.min.name Lib.Math.min.code 2 (some .int), .fieldLink RX2 28 "MajorityIndex$Tree" "lossOf" "[I", .fieldLink RX2 91 "MajorityIndex$Votes" "lost" "I", .fieldLink RX2 31 "MajorityIndex$Tree" "lessBy" "[I", .fieldLink RX2 104 "MajorityIndex$Votes" "lessBy" "I"] ++ wsX20 ++ wsX30)
def wsX2_renew_r1 : List Cond := [Cond.fieldLink RX2 50 "MajorityIndex$Tree" "nodes" "I", Cond.fieldLink RX2 18 "MajorityIndex$Tree" "from" "[I", Cond.fieldLink RX2 22 "MajorityIndex$Tree" "to" "[I", Cond.methodLink RX2 61 yX2_putTogether, Cond.instanceMethod yX2_putTogether, Cond.selects RX2 yX2_putTogether yX2_putTogether, Cond.initialized RX2, Cond.code yX2_putTogether cX2_putTogether 2 none, Cond.fieldLink RX2 12 "MajorityIndex$Tree" "joined" "LMajorityIndex$Votes;", Cond.fieldLink RX2 40 "MajorityIndex$Tree" "row" "LMajorityIndex$Row;", Cond.fieldLink RX2 74 "MajorityIndex$Row" "cell" "[I", Cond.fieldLink RX2 85 "MajorityIndex$Tree" "slotsHere" "I", Cond.methodLink RX2 71 yX3_clear, Cond.instanceMethod yX3_clear, Cond.selects RX3 yX3_clear yX3_clear, Cond.initialized RX3, Cond.code yX3_clear cX3_clear 1 none, Cond.fieldLink RX3 18 "MajorityIndex$Votes" "size" "I", Cond.fieldLink RX3 22 "MajorityIndex$Votes" "lost" "I", Cond.fieldLink RX3 25 "MajorityIndex$Votes" "lessBy" "I", Cond.methodLink RX2 77 yX3_add, Cond.instanceMethod yX3_add, Cond.selects RX3 yX3_add yX3_add, Cond.code yX3_add cX3_add 4 none]
def wsX2_renew_r2 : List Cond := [Cond.fieldLink RX3 9 "MajorityIndex$Votes" "value" "[I", Cond.fieldLink RX3 15 "MajorityIndex$Votes" "number" "[I", Cond.methodLink RX2 81 yX2_joinNode, Cond.instanceMethod yX2_joinNode, Cond.selects RX2 yX2_joinNode yX2_joinNode, Cond.code yX2_joinNode cX2_joinNode 5 none, Cond.fieldLink RX2 25 "MajorityIndex$Tree" "size" "[I", Cond.fieldLink RX2 34 "MajorityIndex$Tree" "value" "[I", Cond.fieldLink RX2 37 "MajorityIndex$Tree" "number" "[I", Cond.fieldLink RX2 91 "MajorityIndex$Votes" "lost" "I", Cond.fieldLink RX2 28 "MajorityIndex$Tree" "lossOf" "[I", Cond.methodLink RX2 57 yX2_rightBelow, Cond.instanceMethod yX2_rightBelow, Cond.selects RX2 yX2_rightBelow yX2_rightBelow, Cond.code yX2_rightBelow cX2_rightBelow 3 (some .int), Cond.methodLink RX2 88 yX3_cancel, Cond.instanceMethod yX3_cancel, Cond.selects RX3 yX3_cancel yX3_cancel, Cond.code yX3_cancel cX3_cancel 4 none, Cond.methodLink RX3 32 yX3_order, Cond.instanceMethod yX3_order, Cond.selects RX3 yX3_order yX3_order, Cond.code yX3_order cX3_order 3 none, Cond.methodLink RX3 35 yX3_isAhead]
def wsX2_renew_r3 : List Cond := [Cond.instanceMethod yX3_isAhead, Cond.selects RX3 yX3_isAhead yX3_isAhead, Cond.code yX3_isAhead cX3_isAhead 3 (some .boolean), Cond.methodLink RX3 39 yX3_exchange, Cond.instanceMethod yX3_exchange, Cond.selects RX3 yX3_exchange yX3_exchange, Cond.code yX3_exchange cX3_exchange 5 none, Cond.methodLink RX2 64 yX2_isJoined, Cond.instanceMethod yX2_isJoined, Cond.selects RX2 yX2_isJoined yX2_isJoined, Cond.code yX2_isJoined cX2_isJoined 4 (some .boolean), Cond.fieldLink RX2 94 "MajorityIndex$Votes" "size" "I", Cond.fieldLink RX2 96 "MajorityIndex$Votes" "value" "[I", Cond.fieldLink RX2 97 "MajorityIndex$Votes" "number" "[I", Cond.methodLink RX2 68 yX2_keepJoined, Cond.instanceMethod yX2_keepJoined, Cond.selects RX2 yX2_keepJoined yX2_keepJoined, Cond.code yX2_keepJoined cX2_keepJoined 4 none, Cond.methodLink RX2 98 Lib.Math.min.name, Cond.static Lib.Math.min.name, Cond.initialized "java/lang/Math", Cond.code Lib.Math.min.name Lib.Math.min.code 2 (some .int), Cond.fieldLink RX2 31 "MajorityIndex$Tree" "lessBy" "[I", Cond.fieldLink RX2 104 "MajorityIndex$Votes" "lessBy" "I"]
def wsX2_renew : List Cond := .code yX2_renew cX2_renew 5 (some .int) :: ((wsX2_renew_r1 ++ (wsX2_renew_r2 ++ wsX2_renew_r3)) ++ wsX20 ++ wsX00 ++ wsX30)
def wsX2_copyTo : List Cond := .code yX2_copyTo cX2_copyTo 3 none :: ([.methodLink RX2 71 yX3_clear, .instanceMethod yX3_clear, .selects RX3 yX3_clear yX3_clear, .initialized RX3, .code yX3_clear cX3_clear 1 none, .fieldLink RX3 18 "MajorityIndex$Votes" "size" "I", .fieldLink RX3 22 "MajorityIndex$Votes" "lost" "I", .fieldLink RX3 25 "MajorityIndex$Votes" "lessBy" "I", .methodLink RX2 81 yX2_joinNode, .instanceMethod yX2_joinNode, .selects RX2 yX2_joinNode yX2_joinNode, .initialized RX2, .code yX2_joinNode cX2_joinNode 5 none, .fieldLink RX2 25 "MajorityIndex$Tree" "size" "[I", .fieldLink RX2 34 "MajorityIndex$Tree" "value" "[I", .fieldLink RX2 37 "MajorityIndex$Tree" "number" "[I", .fieldLink RX2 91 "MajorityIndex$Votes" "lost" "I", .fieldLink RX2 28 "MajorityIndex$Tree" "lossOf" "[I", .methodLink RX2 77 yX3_add, .instanceMethod yX3_add, .selects RX3 yX3_add yX3_add, .code yX3_add cX3_add 4 none, .fieldLink RX3 9 "MajorityIndex$Votes" "value" "[I", .fieldLink RX3 15 "MajorityIndex$Votes" "number" "[I"] ++ wsX30 ++ wsX20)
def wsX2_find : List Cond := .code yX2_find cX2_find 4 (some .int) :: ([.fieldLink RX2 50 "MajorityIndex$Tree" "nodes" "I", .fieldLink RX2 18 "MajorityIndex$Tree" "from" "[I", .fieldLink RX2 22 "MajorityIndex$Tree" "to" "[I"] ++ wsX20)
def wsX2_isPart : List Cond := .code yX2_isPart cX2_isPart 4 (some .boolean) :: ([.fieldLink RX2 18 "MajorityIndex$Tree" "from" "[I", .fieldLink RX2 22 "MajorityIndex$Tree" "to" "[I"] ++ wsX20)
def wsX2_gather_r1 : List Cond := [Cond.fieldLink RX2 50 "MajorityIndex$Tree" "nodes" "I", Cond.fieldLink RX2 22 "MajorityIndex$Tree" "to" "[I", Cond.fieldLink RX2 85 "MajorityIndex$Tree" "slotsHere" "I", Cond.methodLink RX2 71 yX3_clear, Cond.instanceMethod yX3_clear, Cond.selects RX3 yX3_clear yX3_clear, Cond.initialized RX3, Cond.code yX3_clear cX3_clear 1 none, Cond.fieldLink RX3 18 "MajorityIndex$Votes" "size" "I", Cond.fieldLink RX3 22 "MajorityIndex$Votes" "lost" "I", Cond.fieldLink RX3 25 "MajorityIndex$Votes" "lessBy" "I", Cond.methodLink RX2 106 yX2_isPart, Cond.instanceMethod yX2_isPart, Cond.selects RX2 yX2_isPart yX2_isPart, Cond.initialized RX2, Cond.code yX2_isPart cX2_isPart 4 (some .boolean), Cond.fieldLink RX2 18 "MajorityIndex$Tree" "from" "[I", Cond.methodLink RX2 81 yX2_joinNode, Cond.instanceMethod yX2_joinNode, Cond.selects RX2 yX2_joinNode yX2_joinNode, Cond.code yX2_joinNode cX2_joinNode 5 none, Cond.fieldLink RX2 25 "MajorityIndex$Tree" "size" "[I", Cond.fieldLink RX2 34 "MajorityIndex$Tree" "value" "[I", Cond.fieldLink RX2 37 "MajorityIndex$Tree" "number" "[I"]
def wsX2_gather_r2 : List Cond := [Cond.fieldLink RX2 91 "MajorityIndex$Votes" "lost" "I", Cond.fieldLink RX2 28 "MajorityIndex$Tree" "lossOf" "[I", Cond.methodLink RX2 77 yX3_add, Cond.instanceMethod yX3_add, Cond.selects RX3 yX3_add yX3_add, Cond.code yX3_add cX3_add 4 none, Cond.fieldLink RX3 9 "MajorityIndex$Votes" "value" "[I", Cond.fieldLink RX3 15 "MajorityIndex$Votes" "number" "[I", Cond.methodLink RX2 88 yX3_cancel, Cond.instanceMethod yX3_cancel, Cond.selects RX3 yX3_cancel yX3_cancel, Cond.code yX3_cancel cX3_cancel 4 none, Cond.methodLink RX3 32 yX3_order, Cond.instanceMethod yX3_order, Cond.selects RX3 yX3_order yX3_order, Cond.code yX3_order cX3_order 3 none, Cond.methodLink RX3 35 yX3_isAhead, Cond.instanceMethod yX3_isAhead, Cond.selects RX3 yX3_isAhead yX3_isAhead, Cond.code yX3_isAhead cX3_isAhead 3 (some .boolean), Cond.methodLink RX3 39 yX3_exchange, Cond.instanceMethod yX3_exchange, Cond.selects RX3 yX3_exchange yX3_exchange, Cond.code yX3_exchange cX3_exchange 5 none]
def wsX2_gather : List Cond := .code yX2_gather cX2_gather 6 none :: ((wsX2_gather_r1 ++ wsX2_gather_r2) ++ wsX20 ++ wsX30)
def wsX2_hasPlace : List Cond := .code yX2_hasPlace cX2_hasPlace 3 (some .boolean) :: ([.fieldLink RX2 18 "MajorityIndex$Tree" "from" "[I", .fieldLink RX2 22 "MajorityIndex$Tree" "to" "[I"] ++ wsX20)
def wsX2_depthAt : List Cond := .code yX2_depthAt cX2_depthAt 4 (some .int) :: ([.fieldLink RX2 50 "MajorityIndex$Tree" "nodes" "I", .methodLink RX2 110 yX2_hasPlace, .instanceMethod yX2_hasPlace, .selects RX2 yX2_hasPlace yX2_hasPlace, .initialized RX2, .code yX2_hasPlace cX2_hasPlace 3 (some .boolean), .fieldLink RX2 18 "MajorityIndex$Tree" "from" "[I", .fieldLink RX2 22 "MajorityIndex$Tree" "to" "[I"] ++ wsX20)
def wsX2_onPath : List Cond := .code yX2_onPath cX2_onPath 5 (some .int) :: ([.fieldLink RX2 50 "MajorityIndex$Tree" "nodes" "I", .methodLink RX2 110 yX2_hasPlace, .instanceMethod yX2_hasPlace, .selects RX2 yX2_hasPlace yX2_hasPlace, .initialized RX2, .code yX2_hasPlace cX2_hasPlace 3 (some .boolean), .fieldLink RX2 18 "MajorityIndex$Tree" "from" "[I", .fieldLink RX2 22 "MajorityIndex$Tree" "to" "[I"] ++ wsX20)
def wsX2_numberIn : List Cond := .code yX2_numberIn cX2_numberIn 5 (some .int) :: ([.fieldLink RX2 25 "MajorityIndex$Tree" "size" "[I", .fieldLink RX2 34 "MajorityIndex$Tree" "value" "[I", .fieldLink RX2 37 "MajorityIndex$Tree" "number" "[I"] ++ wsX20)
def wsX2_holding : List Cond := .code yX2_holding cX2_holding 4 (some .int) :: ([.fieldLink RX2 50 "MajorityIndex$Tree" "nodes" "I", .fieldLink RX2 40 "MajorityIndex$Tree" "row" "LMajorityIndex$Row;", .fieldLink RX2 74 "MajorityIndex$Row" "cell" "[I", .methodLink RX2 110 yX2_hasPlace, .instanceMethod yX2_hasPlace, .selects RX2 yX2_hasPlace yX2_hasPlace, .initialized RX2, .code yX2_hasPlace cX2_hasPlace 3 (some .boolean), .fieldLink RX2 18 "MajorityIndex$Tree" "from" "[I", .fieldLink RX2 22 "MajorityIndex$Tree" "to" "[I", .methodLink RX2 114 yX2_numberIn, .instanceMethod yX2_numberIn, .selects RX2 yX2_numberIn yX2_numberIn, .code yX2_numberIn cX2_numberIn 5 (some .int), .fieldLink RX2 25 "MajorityIndex$Tree" "size" "[I", .fieldLink RX2 34 "MajorityIndex$Tree" "value" "[I", .fieldLink RX2 37 "MajorityIndex$Tree" "number" "[I"] ++ wsX20 ++ wsX00)
def wsX2_nodesWithMajority : List Cond := .code yX2_nodesWithMajority cX2_nodesWithMajority 3 (some .int) :: ([.fieldLink RX2 50 "MajorityIndex$Tree" "nodes" "I", .fieldLink RX2 40 "MajorityIndex$Tree" "row" "LMajorityIndex$Row;", .fieldLink RX2 18 "MajorityIndex$Tree" "from" "[I", .fieldLink RX2 22 "MajorityIndex$Tree" "to" "[I", .constant RX2 120 (-40000), .methodLink RX2 117 yX0_leader, .instanceMethod yX0_leader, .selects RX0 yX0_leader yX0_leader, .initialized RX0, .code yX0_leader cX0_leader 6 (some .int), .constant RX0 23 (-40000), .fieldLink RX0 9 "MajorityIndex$Row" "cell" "[I", .methodLink RX0 24 yX0_oftenIn, .instanceMethod yX0_oftenIn, .selects RX0 yX0_oftenIn yX0_oftenIn, .code yX0_oftenIn cX0_oftenIn 6 (some .int), .static yX4_isHeavy, .initialized RX4, .code yX4_isHeavy cX4_isHeavy 4 (some .boolean)] ++ wsX20 ++ wsX00)
def wsX2_deepest : List Cond := .code yX2_deepest cX2_deepest 3 (some .int) :: ([.fieldLink RX2 50 "MajorityIndex$Tree" "nodes" "I", .fieldLink RX2 40 "MajorityIndex$Tree" "row" "LMajorityIndex$Row;", .fieldLink RX2 44 "MajorityIndex$Row" "length" "I"] ++ wsX20 ++ wsX00)
def wsX2_allLosses : List Cond := .code yX2_allLosses cX2_allLosses 3 (some .int) :: ([.fieldLink RX2 50 "MajorityIndex$Tree" "nodes" "I", .fieldLink RX2 28 "MajorityIndex$Tree" "lossOf" "[I"] ++ wsX20)
theorem mi_wsX2_renew_wsX2_renew_r1 : ∀ w ∈ wsX2_renew_r1, w ∈ wsX2_renew := fun _ h => (List.mem_cons_of_mem _ (List.mem_append_left _ (List.mem_append_left _ (List.mem_append_left _ (List.mem_append_left _ h)))))
theorem mi_wsX2_renew_wsX2_renew_r2 : ∀ w ∈ wsX2_renew_r2, w ∈ wsX2_renew := fun _ h => (List.mem_cons_of_mem _ (List.mem_append_left _ (List.mem_append_left _ (List.mem_append_left _ (List.mem_append_right _ (List.mem_append_left _ h))))))
theorem mi_wsX2_renew_wsX2_renew_r3 : ∀ w ∈ wsX2_renew_r3, w ∈ wsX2_renew := fun _ h => (List.mem_cons_of_mem _ (List.mem_append_left _ (List.mem_append_left _ (List.mem_append_left _ (List.mem_append_right _ (List.mem_append_right _ h))))))
theorem mi_wsX2_renew_wsX20 : ∀ w ∈ wsX20, w ∈ wsX2_renew := fun _ h => (List.mem_cons_of_mem _ (List.mem_append_left _ (List.mem_append_left _ (List.mem_append_right _ h))))
theorem mi_wsX2_renew_wsX00 : ∀ w ∈ wsX00, w ∈ wsX2_renew := fun _ h => (List.mem_cons_of_mem _ (List.mem_append_left _ (List.mem_append_right _ h)))
theorem mi_wsX2_renew_wsX30 : ∀ w ∈ wsX30, w ∈ wsX2_renew := fun _ h => (List.mem_cons_of_mem _ (List.mem_append_right _ h))
set_option maxRecDepth 20000 in
theorem ggX2_renew_X2_putTogether : GoodIn wsX2_renew wsX2_putTogether := goodIn_k _ [(wsX2_renew_r1, [7, 8, 2, 1, 9, 10, 11, 12, 13, 14, 15, 16, 17, 18, 19, 20, 21, 22, 23]), (wsX2_renew_r2, [0, 1, 2, 3, 4]), (wsX2_renew_r1, [6]), (wsX2_renew_r2, [5, 6, 7, 8, 9, 10, 11, 12, 13, 14, 15, 16, 17, 18, 19, 20, 21, 22, 23]), (wsX2_renew_r3, [0, 1, 2, 3, 4, 5, 6]), (wsX20, [0, 1, 2, 3, 4, 5, 6, 7, 8, 9, 10]), (wsX00, [0, 1]), (wsX30, [0, 1, 2, 3, 4])] (gk_c mi_wsX2_renew_wsX2_renew_r1 (gk_c mi_wsX2_renew_wsX2_renew_r2 (gk_c mi_wsX2_renew_wsX2_renew_r1 (gk_c mi_wsX2_renew_wsX2_renew_r2 (gk_c mi_wsX2_renew_wsX2_renew_r3 (gk_c mi_wsX2_renew_wsX20 (gk_c mi_wsX2_renew_wsX00 (gk_c mi_wsX2_renew_wsX30 gk_n)))))))) rfl (by decide +kernel)
set_option maxRecDepth 20000 in
theorem gX2_renew_X2_putTogether : GoodIn wsX2_renew (wsV RX2 61 RX2 yX2_putTogether wsX2_putTogether) := goodIn_app (goodIn_k _ [(wsX2_renew_r1, [3, 4, 5, 6])] (gk_c mi_wsX2_renew_wsX2_renew_r1 gk_n) rfl (by decide +kernel)) ggX2_renew_X2_putTogether
set_option maxRecDepth 20000 in
theorem ggX2_renew_X2_isJoined : GoodIn wsX2_renew wsX2_isJoined := goodIn_k _ [(wsX2_renew_r3, [10]), (wsX2_renew_r2, [6]), (wsX2_renew_r1, [8]), (wsX2_renew_r3, [11]), (wsX2_renew_r2, [10, 9, 7]), (wsX2_renew_r3, [12]), (wsX2_renew_r2, [8]), (wsX2_renew_r3, [13]), (wsX20, [0, 1, 2, 3, 4, 5, 6, 7, 8, 9, 10]), (wsX30, [0, 1, 2, 3, 4])] (gk_c mi_wsX2_renew_wsX2_renew_r3 (gk_c mi_wsX2_renew_wsX2_renew_r2 (gk_c mi_wsX2_renew_wsX2_renew_r1 (gk_c mi_wsX2_renew_wsX2_renew_r3 (gk_c mi_wsX2_renew_wsX2_renew_r2 (gk_c mi_wsX2_renew_wsX2_renew_r3 (gk_c mi_wsX2_renew_wsX2_renew_r2 (gk_c mi_wsX2_renew_wsX2_renew_r3 (gk_c mi_wsX2_renew_wsX20 (gk_c mi_wsX2_renew_wsX30 gk_n)))))))))) rfl (by decide +kernel)
set_option maxRecDepth 20000 in
theorem gX2_renew_X2_isJoined : GoodIn wsX2_renew (wsV RX2 64 RX2 yX2_isJoined wsX2_isJoined) := goodIn_app (goodIn_k _ [(wsX2_renew_r3, [7, 8, 9]), (wsX2_renew_r1, [6])] (gk_c mi_wsX2_renew_wsX2_renew_r3 (gk_c mi_wsX2_renew_wsX2_renew_r1 gk_n)) rfl (by decide +kernel)) ggX2_renew_X2_isJoined
set_option maxRecDepth 20000 in
theorem ggX2_renew_X2_keepJoined : GoodIn wsX2_renew wsX2_keepJoined := goodIn_k _ [(wsX2_renew_r3, [17]), (wsX2_renew_r1, [8]), (wsX2_renew_r3, [11]), (wsX2_renew_r2, [7]), (wsX2_renew_r3, [12]), (wsX2_renew_r2, [8]), (wsX2_renew_r3, [13]), (wsX2_renew_r2, [6]), (wsX2_renew_r3, [18, 19, 20, 21]), (wsX2_renew_r2, [10, 9]), (wsX2_renew_r3, [22, 23]), (wsX20, [0, 1, 2, 3, 4, 5, 6, 7, 8, 9, 10]), (wsX30, [0, 1, 2, 3, 4])] (gk_c mi_wsX2_renew_wsX2_renew_r3 (gk_c mi_wsX2_renew_wsX2_renew_r1 (gk_c mi_wsX2_renew_wsX2_renew_r3 (gk_c mi_wsX2_renew_wsX2_renew_r2 (gk_c mi_wsX2_renew_wsX2_renew_r3 (gk_c mi_wsX2_renew_wsX2_renew_r2 (gk_c mi_wsX2_renew_wsX2_renew_r3 (gk_c mi_wsX2_renew_wsX2_renew_r2 (gk_c mi_wsX2_renew_wsX2_renew_r3 (gk_c mi_wsX2_renew_wsX2_renew_r2 (gk_c mi_wsX2_renew_wsX2_renew_r3 (gk_c mi_wsX2_renew_wsX20 (gk_c mi_wsX2_renew_wsX30 gk_n))))))))))))) rfl (by decide +kernel)
set_option maxRecDepth 20000 in
theorem gX2_renew_X2_keepJoined : GoodIn wsX2_renew (wsV RX2 68 RX2 yX2_keepJoined wsX2_keepJoined) := goodIn_app (goodIn_k _ [(wsX2_renew_r3, [14, 15, 16]), (wsX2_renew_r1, [6])] (gk_c mi_wsX2_renew_wsX2_renew_r3 (gk_c mi_wsX2_renew_wsX2_renew_r1 gk_n)) rfl (by decide +kernel)) ggX2_renew_X2_keepJoined
def dt_cX2_renew_0 : List (Nat × Instr × Nat) := [(0, .iconst 0, 1), (1, .istore_n 3, 1), (2, .aload_n 0, 1), (3, .getfield 50, 3), (6, .iconst 1, 1), (7, .isub, 1), (8, .istore 4, 2), (10, .iload 4, 2), (12, .ifCond .lt 55, 3), (15, .aload_n 0, 1), (16, .getfield 18, 3), (19, .iload 4, 2), (21, .iaload, 1), (22, .iload_n 2, 1), (23, .if_icmp .ge 38, 3), (26, .iload_n 1, 1), (27, .aload_n 0, 1), (28, .getfield 22, 3), (31, .iload 4, 2), (33, .iaload, 1), (34, .if_icmp .ge 27, 3), (37, .aload_n 0, 1), (38, .iload 4, 2), (40, .invokevirtual 61, 3), (43, .aload_n 0, 1), (44, .iload 4, 2), (46, .invokevirtual 64, 3), (49, .ifCond .ne 6, 3), (52, .iinc 3 1, 3), (55, .aload_n 0, 1), (56, .iload 4, 2), (58, .invokevirtual 68, 3), (61, .iinc 4 (-1), 3), (64, .goto (-54), 3), (67, .iload_n 3, 1), (68, .ireturn, 1)]
theorem da_cX2_renew_0 : dk_all cX2_renew dt_cX2_renew_0 = true := by decide +kernel
theorem dX2_renew_0 : decode cX2_renew 0 = .ok (.iconst 0, 1) := dk_get _ da_cX2_renew_0 0 _ _ _ rfl
theorem dX2_renew_1 : decode cX2_renew 1 = .ok (.istore_n 3, 1) := dk_get _ da_cX2_renew_0 1 _ _ _ rfl
theorem dX2_renew_2 : decode cX2_renew 2 = .ok (.aload_n 0, 1) := dk_get _ da_cX2_renew_0 2 _ _ _ rfl
theorem dX2_renew_3 : decode cX2_renew 3 = .ok (.getfield 50, 3) := dk_get _ da_cX2_renew_0 3 _ _ _ rfl
theorem dX2_renew_6 : decode cX2_renew 6 = .ok (.iconst 1, 1) := dk_get _ da_cX2_renew_0 4 _ _ _ rfl
theorem dX2_renew_7 : decode cX2_renew 7 = .ok (.isub, 1) := dk_get _ da_cX2_renew_0 5 _ _ _ rfl
theorem dX2_renew_8 : decode cX2_renew 8 = .ok (.istore 4, 2) := dk_get _ da_cX2_renew_0 6 _ _ _ rfl
theorem dX2_renew_10 : decode cX2_renew 10 = .ok (.iload 4, 2) := dk_get _ da_cX2_renew_0 7 _ _ _ rfl
theorem dX2_renew_12 : decode cX2_renew 12 = .ok (.ifCond .lt 55, 3) := dk_get _ da_cX2_renew_0 8 _ _ _ rfl
theorem dX2_renew_15 : decode cX2_renew 15 = .ok (.aload_n 0, 1) := dk_get _ da_cX2_renew_0 9 _ _ _ rfl
theorem dX2_renew_16 : decode cX2_renew 16 = .ok (.getfield 18, 3) := dk_get _ da_cX2_renew_0 10 _ _ _ rfl
theorem dX2_renew_19 : decode cX2_renew 19 = .ok (.iload 4, 2) := dk_get _ da_cX2_renew_0 11 _ _ _ rfl
theorem dX2_renew_21 : decode cX2_renew 21 = .ok (.iaload, 1) := dk_get _ da_cX2_renew_0 12 _ _ _ rfl
theorem dX2_renew_22 : decode cX2_renew 22 = .ok (.iload_n 2, 1) := dk_get _ da_cX2_renew_0 13 _ _ _ rfl
theorem dX2_renew_23 : decode cX2_renew 23 = .ok (.if_icmp .ge 38, 3) := dk_get _ da_cX2_renew_0 14 _ _ _ rfl
theorem dX2_renew_26 : decode cX2_renew 26 = .ok (.iload_n 1, 1) := dk_get _ da_cX2_renew_0 15 _ _ _ rfl
theorem dX2_renew_27 : decode cX2_renew 27 = .ok (.aload_n 0, 1) := dk_get _ da_cX2_renew_0 16 _ _ _ rfl
theorem dX2_renew_28 : decode cX2_renew 28 = .ok (.getfield 22, 3) := dk_get _ da_cX2_renew_0 17 _ _ _ rfl
theorem dX2_renew_31 : decode cX2_renew 31 = .ok (.iload 4, 2) := dk_get _ da_cX2_renew_0 18 _ _ _ rfl
theorem dX2_renew_33 : decode cX2_renew 33 = .ok (.iaload, 1) := dk_get _ da_cX2_renew_0 19 _ _ _ rfl
theorem dX2_renew_34 : decode cX2_renew 34 = .ok (.if_icmp .ge 27, 3) := dk_get _ da_cX2_renew_0 20 _ _ _ rfl
theorem dX2_renew_37 : decode cX2_renew 37 = .ok (.aload_n 0, 1) := dk_get _ da_cX2_renew_0 21 _ _ _ rfl
theorem dX2_renew_38 : decode cX2_renew 38 = .ok (.iload 4, 2) := dk_get _ da_cX2_renew_0 22 _ _ _ rfl
theorem dX2_renew_40 : decode cX2_renew 40 = .ok (.invokevirtual 61, 3) := dk_get _ da_cX2_renew_0 23 _ _ _ rfl
theorem dX2_renew_43 : decode cX2_renew 43 = .ok (.aload_n 0, 1) := dk_get _ da_cX2_renew_0 24 _ _ _ rfl
theorem dX2_renew_44 : decode cX2_renew 44 = .ok (.iload 4, 2) := dk_get _ da_cX2_renew_0 25 _ _ _ rfl
theorem dX2_renew_46 : decode cX2_renew 46 = .ok (.invokevirtual 64, 3) := dk_get _ da_cX2_renew_0 26 _ _ _ rfl
theorem dX2_renew_49 : decode cX2_renew 49 = .ok (.ifCond .ne 6, 3) := dk_get _ da_cX2_renew_0 27 _ _ _ rfl
theorem dX2_renew_52 : decode cX2_renew 52 = .ok (.iinc 3 1, 3) := dk_get _ da_cX2_renew_0 28 _ _ _ rfl
theorem dX2_renew_55 : decode cX2_renew 55 = .ok (.aload_n 0, 1) := dk_get _ da_cX2_renew_0 29 _ _ _ rfl
theorem dX2_renew_56 : decode cX2_renew 56 = .ok (.iload 4, 2) := dk_get _ da_cX2_renew_0 30 _ _ _ rfl
theorem dX2_renew_58 : decode cX2_renew 58 = .ok (.invokevirtual 68, 3) := dk_get _ da_cX2_renew_0 31 _ _ _ rfl
theorem dX2_renew_61 : decode cX2_renew 61 = .ok (.iinc 4 (-1), 3) := dk_get _ da_cX2_renew_0 32 _ _ _ rfl
theorem dX2_renew_64 : decode cX2_renew 64 = .ok (.goto (-54), 3) := dk_get _ da_cX2_renew_0 33 _ _ _ rfl
theorem dX2_renew_67 : decode cX2_renew 67 = .ok (.iload_n 3, 1) := dk_get _ da_cX2_renew_0 34 _ _ _ rfl
theorem dX2_renew_68 : decode cX2_renew 68 = .ok (.ireturn, 1) := dk_get _ da_cX2_renew_0 35 _ _ _ rfl
theorem mi_wsX2_putTogether_wsX2_putTogether_r1 : ∀ w ∈ wsX2_putTogether_r1, w ∈ wsX2_putTogether := fun _ h => (List.mem_cons_of_mem _ (List.mem_append_left _ (List.mem_append_left _ (List.mem_append_left _ (List.mem_append_left _ h)))))
theorem mi_wsX2_putTogether_wsX30 : ∀ w ∈ wsX30, w ∈ wsX2_putTogether := fun _ h => (List.mem_cons_of_mem _ (List.mem_append_right _ h))
set_option maxRecDepth 20000 in
theorem ggX2_putTogether_X3_clear : GoodIn wsX2_putTogether wsX3_clear := goodIn_k _ [(wsX2_putTogether_r1, [10, 11, 12, 13]), (wsX30, [0, 1, 2, 3, 4])] (gk_c mi_wsX2_putTogether_wsX2_putTogether_r1 (gk_c mi_wsX2_putTogether_wsX30 gk_n)) rfl (by decide +kernel)
set_option maxRecDepth 20000 in
theorem gX2_putTogether_X3_clear : GoodIn wsX2_putTogether (wsV RX2 71 RX3 yX3_clear wsX3_clear) := goodIn_app (goodIn_k _ [(wsX2_putTogether_r1, [6, 7, 8, 9])] (gk_c mi_wsX2_putTogether_wsX2_putTogether_r1 gk_n) rfl (by decide +kernel)) ggX2_putTogether_X3_clear
set_option maxRecDepth 20000 in
theorem ggX2_putTogether_X3_add : GoodIn wsX2_putTogether wsX3_add := goodIn_k _ [(wsX2_putTogether_r1, [17, 11, 18, 19]), (wsX30, [0, 1, 2, 3, 4])] (gk_c mi_wsX2_putTogether_wsX2_putTogether_r1 (gk_c mi_wsX2_putTogether_wsX30 gk_n)) rfl (by decide +kernel)
set_option maxRecDepth 20000 in
theorem gX2_putTogether_X3_add : GoodIn wsX2_putTogether (wsV RX2 77 RX3 yX3_add wsX3_add) := goodIn_app (goodIn_k _ [(wsX2_putTogether_r1, [14, 15, 16, 9])] (gk_c mi_wsX2_putTogether_wsX2_putTogether_r1 gk_n) rfl (by decide +kernel)) ggX2_putTogether_X3_add
theorem mi_wsX2_putTogether_wsX2_putTogether_r2 : ∀ w ∈ wsX2_putTogether_r2, w ∈ wsX2_putTogether := fun _ h => (List.mem_cons_of_mem _ (List.mem_append_left _ (List.mem_append_left _ (List.mem_append_left _ (List.mem_append_right _ (List.mem_append_left _ h))))))
theorem mi_wsX2_putTogether_wsX20 : ∀ w ∈ wsX20, w ∈ wsX2_putTogether := fun _ h => (List.mem_cons_of_mem _ (List.mem_append_left _ (List.mem_append_left _ (List.mem_append_right _ h))))
set_option maxRecDepth 20000 in
theorem ggX2_putTogether_X2_joinNode : GoodIn wsX2_putTogether wsX2_joinNode := goodIn_k _ [(wsX2_putTogether_r2, [0, 1, 2, 3, 4, 5]), (wsX2_putTogether_r1, [14, 15, 16, 9, 17, 11, 18, 19]), (wsX20, [0, 1, 2, 3, 4, 5, 6, 7, 8, 9, 10]), (wsX30, [0, 1, 2, 3, 4])] (gk_c mi_wsX2_putTogether_wsX2_putTogether_r2 (gk_c mi_wsX2_putTogether_wsX2_putTogether_r1 (gk_c mi_wsX2_putTogether_wsX20 (gk_c mi_wsX2_putTogether_wsX30 gk_n)))) rfl (by decide +kernel)
set_option maxRecDepth 20000 in
theorem gX2_putTogether_X2_joinNode : GoodIn wsX2_putTogether (wsV RX2 81 RX2 yX2_joinNode wsX2_joinNode) := goodIn_app (goodIn_k _ [(wsX2_putTogether_r1, [20, 21, 22, 23])] (gk_c mi_wsX2_putTogether_wsX2_putTogether_r1 gk_n) rfl (by decide +kernel)) ggX2_putTogether_X2_joinNode
set_option maxRecDepth 20000 in
theorem ggX2_putTogether_X2_rightBelow : GoodIn wsX2_putTogether wsX2_rightBelow := goodIn_k _ [(wsX2_putTogether_r2, [9]), (wsX2_putTogether_r1, [2, 1]), (wsX20, [0, 1, 2, 3, 4, 5, 6, 7, 8, 9, 10])] (gk_c mi_wsX2_putTogether_wsX2_putTogether_r2 (gk_c mi_wsX2_putTogether_wsX2_putTogether_r1 (gk_c mi_wsX2_putTogether_wsX20 gk_n))) rfl (by decide +kernel)
set_option maxRecDepth 20000 in
theorem gX2_putTogether_X2_rightBelow : GoodIn wsX2_putTogether (wsV RX2 57 RX2 yX2_rightBelow wsX2_rightBelow) := goodIn_app (goodIn_k _ [(wsX2_putTogether_r2, [6, 7, 8]), (wsX2_putTogether_r1, [23])] (gk_c mi_wsX2_putTogether_wsX2_putTogether_r2 (gk_c mi_wsX2_putTogether_wsX2_putTogether_r1 gk_n)) rfl (by decide +kernel)) ggX2_putTogether_X2_rightBelow
theorem mi_wsX2_putTogether_wsX2_putTogether_r3 : ∀ w ∈ wsX2_putTogether_r3, w ∈ wsX2_putTogether := fun _ h => (List.mem_cons_of_mem _ (List.mem_append_left _ (List.mem_append_left _ (List.mem_append_left _ (List.mem_append_right _ (List.mem_append_right _ h))))))
set_option maxRecDepth 20000 in
theorem ggX2_putTogether_X3_cancel : GoodIn wsX2_putTogether wsX3_cancel := goodIn_k _ [(wsX2_putTogether_r2, [13]), (wsX2_putTogether_r1, [11, 19, 13, 12]), (wsX2_putTogether_r2, [14, 15, 16]), (wsX2_putTogether_r1, [9]), (wsX2_putTogether_r2, [17, 18, 19, 20, 21]), (wsX2_putTogether_r1, [18]), (wsX2_putTogether_r2, [22, 23]), (wsX2_putTogether_r3, [0, 1]), (wsX30, [0, 1, 2, 3, 4])] (gk_c mi_wsX2_putTogether_wsX2_putTogether_r2 (gk_c mi_wsX2_putTogether_wsX2_putTogether_r1 (gk_c mi_wsX2_putTogether_wsX2_putTogether_r2 (gk_c mi_wsX2_putTogether_wsX2_putTogether_r1 (gk_c mi_wsX2_putTogether_wsX2_putTogether_r2 (gk_c mi_wsX2_putTogether_wsX2_putTogether_r1 (gk_c mi_wsX2_putTogether_wsX2_putTogether_r2 (gk_c mi_wsX2_putTogether_wsX2_putTogether_r3 (gk_c mi_wsX2_putTogether_wsX30 gk_n))))))))) rfl (by decide +kernel)
set_option maxRecDepth 20000 in
theorem gX2_putTogether_X3_cancel : GoodIn wsX2_putTogether (wsV RX2 88 RX3 yX3_cancel wsX3_cancel) := goodIn_app (goodIn_k _ [(wsX2_putTogether_r2, [10, 11, 12]), (wsX2_putTogether_r1, [9])] (gk_c mi_wsX2_putTogether_wsX2_putTogether_r2 (gk_c mi_wsX2_putTogether_wsX2_putTogether_r1 gk_n)) rfl (by decide +kernel)) ggX2_putTogether_X3_cancel
def dt_cX2_putTogether_0 : List (Nat × Instr × Nat) := [(0, .aload_n 0, 1), (1, .getfield 12, 3), (4, .invokevirtual 71, 3), (7, .aload_n 0, 1), (8, .getfield 22, 3), (11, .iload_n 1, 1), (12, .iaload, 1), (13, .aload_n 0, 1), (14, .getfield 18, 3), (17, .iload_n 1, 1), (18, .iaload, 1), (19, .isub, 1), (20, .iconst 1, 1), (21, .if_icmp .ne 28, 3), (24, .aload_n 0, 1), (25, .getfield 12, 3), (28, .aload_n 0, 1), (29, .getfield 40, 3), (32, .getfield 74, 3), (35, .aload_n 0, 1), (36, .getfield 18, 3), (39, .iload_n 1, 1), (40, .iaload, 1), (41, .iaload, 1), (42, .iconst 1, 1), (43, .invokevirtual 77, 3), (46, .goto 38, 3), (49, .aload_n 0, 1), (50, .aload_n 0, 1), (51, .getfield 12, 3), (54, .iload_n 1, 1), (55, .iconst 1, 1), (56, .iadd, 1), (57, .invokevirtual 81, 3), (60, .aload_n 0, 1), (61, .aload_n 0, 1), (62, .getfield 12, 3), (65, .aload_n 0, 1), (66, .iload_n 1, 1), (67, .invokevirtual 57, 3), (70, .invokevirtual 81, 3), (73, .aload_n 0, 1), (74, .getfield 12, 3), (77, .aload_n 0, 1), (78, .getfield 85, 3), (81, .invokevirtual 88, 3), (84, .return_, 1)]
theorem da_cX2_putTogether_0 : dk_all cX2_putTogether dt_cX2_putTogether_0 = true := by decide +kernel
theorem dX2_putTogether_0 : decode cX2_putTogether 0 = .ok (.aload_n 0, 1) := dk_get _ da_cX2_putTogether_0 0 _ _ _ rfl
theorem dX2_putTogether_1 : decode cX2_putTogether 1 = .ok (.getfield 12, 3) := dk_get _ da_cX2_putTogether_0 1 _ _ _ rfl
theorem dX2_putTogether_4 : decode cX2_putTogether 4 = .ok (.invokevirtual 71, 3) := dk_get _ da_cX2_putTogether_0 2 _ _ _ rfl
theorem dX2_putTogether_7 : decode cX2_putTogether 7 = .ok (.aload_n 0, 1) := dk_get _ da_cX2_putTogether_0 3 _ _ _ rfl
theorem dX2_putTogether_8 : decode cX2_putTogether 8 = .ok (.getfield 22, 3) := dk_get _ da_cX2_putTogether_0 4 _ _ _ rfl
theorem dX2_putTogether_11 : decode cX2_putTogether 11 = .ok (.iload_n 1, 1) := dk_get _ da_cX2_putTogether_0 5 _ _ _ rfl
theorem dX2_putTogether_12 : decode cX2_putTogether 12 = .ok (.iaload, 1) := dk_get _ da_cX2_putTogether_0 6 _ _ _ rfl
theorem dX2_putTogether_13 : decode cX2_putTogether 13 = .ok (.aload_n 0, 1) := dk_get _ da_cX2_putTogether_0 7 _ _ _ rfl
theorem dX2_putTogether_14 : decode cX2_putTogether 14 = .ok (.getfield 18, 3) := dk_get _ da_cX2_putTogether_0 8 _ _ _ rfl
theorem dX2_putTogether_17 : decode cX2_putTogether 17 = .ok (.iload_n 1, 1) := dk_get _ da_cX2_putTogether_0 9 _ _ _ rfl
theorem dX2_putTogether_18 : decode cX2_putTogether 18 = .ok (.iaload, 1) := dk_get _ da_cX2_putTogether_0 10 _ _ _ rfl
theorem dX2_putTogether_19 : decode cX2_putTogether 19 = .ok (.isub, 1) := dk_get _ da_cX2_putTogether_0 11 _ _ _ rfl
theorem dX2_putTogether_20 : decode cX2_putTogether 20 = .ok (.iconst 1, 1) := dk_get _ da_cX2_putTogether_0 12 _ _ _ rfl
theorem dX2_putTogether_21 : decode cX2_putTogether 21 = .ok (.if_icmp .ne 28, 3) := dk_get _ da_cX2_putTogether_0 13 _ _ _ rfl
theorem dX2_putTogether_24 : decode cX2_putTogether 24 = .ok (.aload_n 0, 1) := dk_get _ da_cX2_putTogether_0 14 _ _ _ rfl
theorem dX2_putTogether_25 : decode cX2_putTogether 25 = .ok (.getfield 12, 3) := dk_get _ da_cX2_putTogether_0 15 _ _ _ rfl
theorem dX2_putTogether_28 : decode cX2_putTogether 28 = .ok (.aload_n 0, 1) := dk_get _ da_cX2_putTogether_0 16 _ _ _ rfl
theorem dX2_putTogether_29 : decode cX2_putTogether 29 = .ok (.getfield 40, 3) := dk_get _ da_cX2_putTogether_0 17 _ _ _ rfl
theorem dX2_putTogether_32 : decode cX2_putTogether 32 = .ok (.getfield 74, 3) := dk_get _ da_cX2_putTogether_0 18 _ _ _ rfl
theorem dX2_putTogether_35 : decode cX2_putTogether 35 = .ok (.aload_n 0, 1) := dk_get _ da_cX2_putTogether_0 19 _ _ _ rfl
theorem dX2_putTogether_36 : decode cX2_putTogether 36 = .ok (.getfield 18, 3) := dk_get _ da_cX2_putTogether_0 20 _ _ _ rfl
theorem dX2_putTogether_39 : decode cX2_putTogether 39 = .ok (.iload_n 1, 1) := dk_get _ da_cX2_putTogether_0 21 _ _ _ rfl
theorem dX2_putTogether_40 : decode cX2_putTogether 40 = .ok (.iaload, 1) := dk_get _ da_cX2_putTogether_0 22 _ _ _ rfl
theorem dX2_putTogether_41 : decode cX2_putTogether 41 = .ok (.iaload, 1) := dk_get _ da_cX2_putTogether_0 23 _ _ _ rfl
theorem dX2_putTogether_42 : decode cX2_putTogether 42 = .ok (.iconst 1, 1) := dk_get _ da_cX2_putTogether_0 24 _ _ _ rfl
theorem dX2_putTogether_43 : decode cX2_putTogether 43 = .ok (.invokevirtual 77, 3) := dk_get _ da_cX2_putTogether_0 25 _ _ _ rfl
theorem dX2_putTogether_46 : decode cX2_putTogether 46 = .ok (.goto 38, 3) := dk_get _ da_cX2_putTogether_0 26 _ _ _ rfl
theorem dX2_putTogether_49 : decode cX2_putTogether 49 = .ok (.aload_n 0, 1) := dk_get _ da_cX2_putTogether_0 27 _ _ _ rfl
theorem dX2_putTogether_50 : decode cX2_putTogether 50 = .ok (.aload_n 0, 1) := dk_get _ da_cX2_putTogether_0 28 _ _ _ rfl
theorem dX2_putTogether_51 : decode cX2_putTogether 51 = .ok (.getfield 12, 3) := dk_get _ da_cX2_putTogether_0 29 _ _ _ rfl
theorem dX2_putTogether_54 : decode cX2_putTogether 54 = .ok (.iload_n 1, 1) := dk_get _ da_cX2_putTogether_0 30 _ _ _ rfl
theorem dX2_putTogether_55 : decode cX2_putTogether 55 = .ok (.iconst 1, 1) := dk_get _ da_cX2_putTogether_0 31 _ _ _ rfl
theorem dX2_putTogether_56 : decode cX2_putTogether 56 = .ok (.iadd, 1) := dk_get _ da_cX2_putTogether_0 32 _ _ _ rfl
theorem dX2_putTogether_57 : decode cX2_putTogether 57 = .ok (.invokevirtual 81, 3) := dk_get _ da_cX2_putTogether_0 33 _ _ _ rfl
theorem dX2_putTogether_60 : decode cX2_putTogether 60 = .ok (.aload_n 0, 1) := dk_get _ da_cX2_putTogether_0 34 _ _ _ rfl
theorem dX2_putTogether_61 : decode cX2_putTogether 61 = .ok (.aload_n 0, 1) := dk_get _ da_cX2_putTogether_0 35 _ _ _ rfl
theorem dX2_putTogether_62 : decode cX2_putTogether 62 = .ok (.getfield 12, 3) := dk_get _ da_cX2_putTogether_0 36 _ _ _ rfl
theorem dX2_putTogether_65 : decode cX2_putTogether 65 = .ok (.aload_n 0, 1) := dk_get _ da_cX2_putTogether_0 37 _ _ _ rfl
theorem dX2_putTogether_66 : decode cX2_putTogether 66 = .ok (.iload_n 1, 1) := dk_get _ da_cX2_putTogether_0 38 _ _ _ rfl
theorem dX2_putTogether_67 : decode cX2_putTogether 67 = .ok (.invokevirtual 57, 3) := dk_get _ da_cX2_putTogether_0 39 _ _ _ rfl
theorem dX2_putTogether_70 : decode cX2_putTogether 70 = .ok (.invokevirtual 81, 3) := dk_get _ da_cX2_putTogether_0 40 _ _ _ rfl
theorem dX2_putTogether_73 : decode cX2_putTogether 73 = .ok (.aload_n 0, 1) := dk_get _ da_cX2_putTogether_0 41 _ _ _ rfl
theorem dX2_putTogether_74 : decode cX2_putTogether 74 = .ok (.getfield 12, 3) := dk_get _ da_cX2_putTogether_0 42 _ _ _ rfl
theorem dX2_putTogether_77 : decode cX2_putTogether 77 = .ok (.aload_n 0, 1) := dk_get _ da_cX2_putTogether_0 43 _ _ _ rfl
theorem dX2_putTogether_78 : decode cX2_putTogether 78 = .ok (.getfield 85, 3) := dk_get _ da_cX2_putTogether_0 44 _ _ _ rfl
theorem dX2_putTogether_81 : decode cX2_putTogether 81 = .ok (.invokevirtual 88, 3) := dk_get _ da_cX2_putTogether_0 45 _ _ _ rfl
theorem dX2_putTogether_84 : decode cX2_putTogether 84 = .ok (.return_, 1) := dk_get _ da_cX2_putTogether_0 46 _ _ _ rfl
set_option maxRecDepth 20000 in
theorem ggX2_joinNode_X3_add : GoodIn wsX2_joinNode wsX3_add := goodIn_r _ [10, 11, 12, 13, 25, 26, 27, 28, 29] rfl (by decide +kernel)
set_option maxRecDepth 20000 in
theorem gX2_joinNode_X3_add : GoodIn wsX2_joinNode (wsV RX2 77 RX3 yX3_add wsX3_add) := goodIn_app (goodIn_r _ [6, 7, 8, 9] rfl (by decide +kernel)) ggX2_joinNode_X3_add
def dt_cX2_joinNode_0 : List (Nat × Instr × Nat) := [(0, .iload_n 2, 1), (1, .bipush 6, 2), (3, .imul, 1), (4, .istore_n 3, 1), (5, .iconst 0, 1), (6, .istore 4, 2), (8, .iload 4, 2), (10, .aload_n 0, 1), (11, .getfield 25, 3), (14, .iload_n 2, 1), (15, .iaload, 1), (16, .if_icmp .ge 31, 3), (19, .aload_n 1, 1), (20, .aload_n 0, 1), (21, .getfield 34, 3), (24, .iload_n 3, 1), (25, .iload 4, 2), (27, .iadd, 1), (28, .iaload, 1), (29, .aload_n 0, 1), (30, .getfield 37, 3), (33, .iload_n 3, 1), (34, .iload 4, 2), (36, .iadd, 1), (37, .iaload, 1), (38, .invokevirtual 77, 3), (41, .iinc 4 1, 3), (44, .goto (-36), 3), (47, .aload_n 1, 1), (48, .dup, 1), (49, .getfield 91, 3), (52, .aload_n 0, 1), (53, .getfield 28, 3), (56, .iload_n 2, 1), (57, .iaload, 1), (58, .iadd, 1), (59, .putfield 91, 3), (62, .return_, 1)]
theorem da_cX2_joinNode_0 : dk_all cX2_joinNode dt_cX2_joinNode_0 = true := by decide +kernel
theorem dX2_joinNode_0 : decode cX2_joinNode 0 = .ok (.iload_n 2, 1) := dk_get _ da_cX2_joinNode_0 0 _ _ _ rfl
theorem dX2_joinNode_1 : decode cX2_joinNode 1 = .ok (.bipush 6, 2) := dk_get _ da_cX2_joinNode_0 1 _ _ _ rfl
theorem dX2_joinNode_3 : decode cX2_joinNode 3 = .ok (.imul, 1) := dk_get _ da_cX2_joinNode_0 2 _ _ _ rfl
theorem dX2_joinNode_4 : decode cX2_joinNode 4 = .ok (.istore_n 3, 1) := dk_get _ da_cX2_joinNode_0 3 _ _ _ rfl
theorem dX2_joinNode_5 : decode cX2_joinNode 5 = .ok (.iconst 0, 1) := dk_get _ da_cX2_joinNode_0 4 _ _ _ rfl
theorem dX2_joinNode_6 : decode cX2_joinNode 6 = .ok (.istore 4, 2) := dk_get _ da_cX2_joinNode_0 5 _ _ _ rfl
theorem dX2_joinNode_8 : decode cX2_joinNode 8 = .ok (.iload 4, 2) := dk_get _ da_cX2_joinNode_0 6 _ _ _ rfl
theorem dX2_joinNode_10 : decode cX2_joinNode 10 = .ok (.aload_n 0, 1) := dk_get _ da_cX2_joinNode_0 7 _ _ _ rfl
theorem dX2_joinNode_11 : decode cX2_joinNode 11 = .ok (.getfield 25, 3) := dk_get _ da_cX2_joinNode_0 8 _ _ _ rfl
theorem dX2_joinNode_14 : decode cX2_joinNode 14 = .ok (.iload_n 2, 1) := dk_get _ da_cX2_joinNode_0 9 _ _ _ rfl
theorem dX2_joinNode_15 : decode cX2_joinNode 15 = .ok (.iaload, 1) := dk_get _ da_cX2_joinNode_0 10 _ _ _ rfl
theorem dX2_joinNode_16 : decode cX2_joinNode 16 = .ok (.if_icmp .ge 31, 3) := dk_get _ da_cX2_joinNode_0 11 _ _ _ rfl
theorem dX2_joinNode_19 : decode cX2_joinNode 19 = .ok (.aload_n 1, 1) := dk_get _ da_cX2_joinNode_0 12 _ _ _ rfl
theorem dX2_joinNode_20 : decode cX2_joinNode 20 = .ok (.aload_n 0, 1) := dk_get _ da_cX2_joinNode_0 13 _ _ _ rfl
theorem dX2_joinNode_21 : decode cX2_joinNode 21 = .ok (.getfield 34, 3) := dk_get _ da_cX2_joinNode_0 14 _ _ _ rfl
theorem dX2_joinNode_24 : decode cX2_joinNode 24 = .ok (.iload_n 3, 1) := dk_get _ da_cX2_joinNode_0 15 _ _ _ rfl
theorem dX2_joinNode_25 : decode cX2_joinNode 25 = .ok (.iload 4, 2) := dk_get _ da_cX2_joinNode_0 16 _ _ _ rfl
theorem dX2_joinNode_27 : decode cX2_joinNode 27 = .ok (.iadd, 1) := dk_get _ da_cX2_joinNode_0 17 _ _ _ rfl
theorem dX2_joinNode_28 : decode cX2_joinNode 28 = .ok (.iaload, 1) := dk_get _ da_cX2_joinNode_0 18 _ _ _ rfl
theorem dX2_joinNode_29 : decode cX2_joinNode 29 = .ok (.aload_n 0, 1) := dk_get _ da_cX2_joinNode_0 19 _ _ _ rfl
theorem dX2_joinNode_30 : decode cX2_joinNode 30 = .ok (.getfield 37, 3) := dk_get _ da_cX2_joinNode_0 20 _ _ _ rfl
theorem dX2_joinNode_33 : decode cX2_joinNode 33 = .ok (.iload_n 3, 1) := dk_get _ da_cX2_joinNode_0 21 _ _ _ rfl
theorem dX2_joinNode_34 : decode cX2_joinNode 34 = .ok (.iload 4, 2) := dk_get _ da_cX2_joinNode_0 22 _ _ _ rfl
theorem dX2_joinNode_36 : decode cX2_joinNode 36 = .ok (.iadd, 1) := dk_get _ da_cX2_joinNode_0 23 _ _ _ rfl
theorem dX2_joinNode_37 : decode cX2_joinNode 37 = .ok (.iaload, 1) := dk_get _ da_cX2_joinNode_0 24 _ _ _ rfl
theorem dX2_joinNode_38 : decode cX2_joinNode 38 = .ok (.invokevirtual 77, 3) := dk_get _ da_cX2_joinNode_0 25 _ _ _ rfl
theorem dX2_joinNode_41 : decode cX2_joinNode 41 = .ok (.iinc 4 1, 3) := dk_get _ da_cX2_joinNode_0 26 _ _ _ rfl
theorem dX2_joinNode_44 : decode cX2_joinNode 44 = .ok (.goto (-36), 3) := dk_get _ da_cX2_joinNode_0 27 _ _ _ rfl
theorem dX2_joinNode_47 : decode cX2_joinNode 47 = .ok (.aload_n 1, 1) := dk_get _ da_cX2_joinNode_0 28 _ _ _ rfl
theorem dX2_joinNode_48 : decode cX2_joinNode 48 = .ok (.dup, 1) := dk_get _ da_cX2_joinNode_0 29 _ _ _ rfl
theorem dX2_joinNode_49 : decode cX2_joinNode 49 = .ok (.getfield 91, 3) := dk_get _ da_cX2_joinNode_0 30 _ _ _ rfl
theorem dX2_joinNode_52 : decode cX2_joinNode 52 = .ok (.aload_n 0, 1) := dk_get _ da_cX2_joinNode_0 31 _ _ _ rfl
theorem dX2_joinNode_53 : decode cX2_joinNode 53 = .ok (.getfield 28, 3) := dk_get _ da_cX2_joinNode_0 32 _ _ _ rfl
theorem dX2_joinNode_56 : decode cX2_joinNode 56 = .ok (.iload_n 2, 1) := dk_get _ da_cX2_joinNode_0 33 _ _ _ rfl
theorem dX2_joinNode_57 : decode cX2_joinNode 57 = .ok (.iaload, 1) := dk_get _ da_cX2_joinNode_0 34 _ _ _ rfl
theorem dX2_joinNode_58 : decode cX2_joinNode 58 = .ok (.iadd, 1) := dk_get _ da_cX2_joinNode_0 35 _ _ _ rfl
theorem dX2_joinNode_59 : decode cX2_joinNode 59 = .ok (.putfield 91, 3) := dk_get _ da_cX2_joinNode_0 36 _ _ _ rfl
theorem dX2_joinNode_62 : decode cX2_joinNode 62 = .ok (.return_, 1) := dk_get _ da_cX2_joinNode_0 37 _ _ _ rfl
def dt_cX2_isJoined_0 : List (Nat × Instr × Nat) := [(0, .aload_n 0, 1), (1, .getfield 25, 3), (4, .iload_n 1, 1), (5, .iaload, 1), (6, .aload_n 0, 1), (7, .getfield 12, 3), (10, .getfield 94, 3), (13, .if_icmp .ne 19, 3), (16, .aload_n 0, 1), (17, .getfield 28, 3), (20, .iload_n 1, 1), (21, .iaload, 1), (22, .aload_n 0, 1), (23, .getfield 12, 3), (26, .getfield 91, 3), (29, .if_icmp .eq 5, 3), (32, .iconst 0, 1), (33, .ireturn, 1), (34, .iload_n 1, 1), (35, .bipush 6, 2), (37, .imul, 1), (38, .istore_n 2, 1), (39, .iconst 0, 1), (40, .istore_n 3, 1), (41, .iload_n 3, 1), (42, .aload_n 0, 1), (43, .getfield 12, 3), (46, .getfield 94, 3), (49, .if_icmp .ge 57, 3), (52, .iload_n 3, 1), (53, .bipush 6, 2), (55, .if_icmp .ge 51, 3), (58, .aload_n 0, 1), (59, .getfield 34, 3), (62, .iload_n 2, 1), (63, .iload_n 3, 1), (64, .iadd, 1), (65, .iaload, 1), (66, .aload_n 0, 1), (67, .getfield 12, 3), (70, .getfield 96, 3), (73, .iload_n 3, 1), (74, .iaload, 1), (75, .if_icmp .ne 23, 3), (78, .aload_n 0, 1), (79, .getfield 37, 3), (82, .iload_n 2, 1), (83, .iload_n 3, 1), (84, .iadd, 1), (85, .iaload, 1), (86, .aload_n 0, 1), (87, .getfield 12, 3), (90, .getfield 97, 3), (93, .iload_n 3, 1), (94, .iaload, 1), (95, .if_icmp .eq 5, 3), (98, .iconst 0, 1), (99, .ireturn, 1), (100, .iinc 3 1, 3), (103, .goto (-62), 3)]
theorem da_cX2_isJoined_0 : dk_all cX2_isJoined dt_cX2_isJoined_0 = true := by decide +kernel
theorem dX2_isJoined_0 : decode cX2_isJoined 0 = .ok (.aload_n 0, 1) := dk_get _ da_cX2_isJoined_0 0 _ _ _ rfl
theorem dX2_isJoined_1 : decode cX2_isJoined 1 = .ok (.getfield 25, 3) := dk_get _ da_cX2_isJoined_0 1 _ _ _ rfl
theorem dX2_isJoined_4 : decode cX2_isJoined 4 = .ok (.iload_n 1, 1) := dk_get _ da_cX2_isJoined_0 2 _ _ _ rfl
theorem dX2_isJoined_5 : decode cX2_isJoined 5 = .ok (.iaload, 1) := dk_get _ da_cX2_isJoined_0 3 _ _ _ rfl
theorem dX2_isJoined_6 : decode cX2_isJoined 6 = .ok (.aload_n 0, 1) := dk_get _ da_cX2_isJoined_0 4 _ _ _ rfl
theorem dX2_isJoined_7 : decode cX2_isJoined 7 = .ok (.getfield 12, 3) := dk_get _ da_cX2_isJoined_0 5 _ _ _ rfl
theorem dX2_isJoined_10 : decode cX2_isJoined 10 = .ok (.getfield 94, 3) := dk_get _ da_cX2_isJoined_0 6 _ _ _ rfl
theorem dX2_isJoined_13 : decode cX2_isJoined 13 = .ok (.if_icmp .ne 19, 3) := dk_get _ da_cX2_isJoined_0 7 _ _ _ rfl
theorem dX2_isJoined_16 : decode cX2_isJoined 16 = .ok (.aload_n 0, 1) := dk_get _ da_cX2_isJoined_0 8 _ _ _ rfl
theorem dX2_isJoined_17 : decode cX2_isJoined 17 = .ok (.getfield 28, 3) := dk_get _ da_cX2_isJoined_0 9 _ _ _ rfl
theorem dX2_isJoined_20 : decode cX2_isJoined 20 = .ok (.iload_n 1, 1) := dk_get _ da_cX2_isJoined_0 10 _ _ _ rfl
theorem dX2_isJoined_21 : decode cX2_isJoined 21 = .ok (.iaload, 1) := dk_get _ da_cX2_isJoined_0 11 _ _ _ rfl
theorem dX2_isJoined_22 : decode cX2_isJoined 22 = .ok (.aload_n 0, 1) := dk_get _ da_cX2_isJoined_0 12 _ _ _ rfl
theorem dX2_isJoined_23 : decode cX2_isJoined 23 = .ok (.getfield 12, 3) := dk_get _ da_cX2_isJoined_0 13 _ _ _ rfl
theorem dX2_isJoined_26 : decode cX2_isJoined 26 = .ok (.getfield 91, 3) := dk_get _ da_cX2_isJoined_0 14 _ _ _ rfl
theorem dX2_isJoined_29 : decode cX2_isJoined 29 = .ok (.if_icmp .eq 5, 3) := dk_get _ da_cX2_isJoined_0 15 _ _ _ rfl
theorem dX2_isJoined_32 : decode cX2_isJoined 32 = .ok (.iconst 0, 1) := dk_get _ da_cX2_isJoined_0 16 _ _ _ rfl
theorem dX2_isJoined_33 : decode cX2_isJoined 33 = .ok (.ireturn, 1) := dk_get _ da_cX2_isJoined_0 17 _ _ _ rfl
theorem dX2_isJoined_34 : decode cX2_isJoined 34 = .ok (.iload_n 1, 1) := dk_get _ da_cX2_isJoined_0 18 _ _ _ rfl
theorem dX2_isJoined_35 : decode cX2_isJoined 35 = .ok (.bipush 6, 2) := dk_get _ da_cX2_isJoined_0 19 _ _ _ rfl
theorem dX2_isJoined_37 : decode cX2_isJoined 37 = .ok (.imul, 1) := dk_get _ da_cX2_isJoined_0 20 _ _ _ rfl
theorem dX2_isJoined_38 : decode cX2_isJoined 38 = .ok (.istore_n 2, 1) := dk_get _ da_cX2_isJoined_0 21 _ _ _ rfl
theorem dX2_isJoined_39 : decode cX2_isJoined 39 = .ok (.iconst 0, 1) := dk_get _ da_cX2_isJoined_0 22 _ _ _ rfl
theorem dX2_isJoined_40 : decode cX2_isJoined 40 = .ok (.istore_n 3, 1) := dk_get _ da_cX2_isJoined_0 23 _ _ _ rfl
theorem dX2_isJoined_41 : decode cX2_isJoined 41 = .ok (.iload_n 3, 1) := dk_get _ da_cX2_isJoined_0 24 _ _ _ rfl
theorem dX2_isJoined_42 : decode cX2_isJoined 42 = .ok (.aload_n 0, 1) := dk_get _ da_cX2_isJoined_0 25 _ _ _ rfl
theorem dX2_isJoined_43 : decode cX2_isJoined 43 = .ok (.getfield 12, 3) := dk_get _ da_cX2_isJoined_0 26 _ _ _ rfl
theorem dX2_isJoined_46 : decode cX2_isJoined 46 = .ok (.getfield 94, 3) := dk_get _ da_cX2_isJoined_0 27 _ _ _ rfl
theorem dX2_isJoined_49 : decode cX2_isJoined 49 = .ok (.if_icmp .ge 57, 3) := dk_get _ da_cX2_isJoined_0 28 _ _ _ rfl
theorem dX2_isJoined_52 : decode cX2_isJoined 52 = .ok (.iload_n 3, 1) := dk_get _ da_cX2_isJoined_0 29 _ _ _ rfl
theorem dX2_isJoined_53 : decode cX2_isJoined 53 = .ok (.bipush 6, 2) := dk_get _ da_cX2_isJoined_0 30 _ _ _ rfl
theorem dX2_isJoined_55 : decode cX2_isJoined 55 = .ok (.if_icmp .ge 51, 3) := dk_get _ da_cX2_isJoined_0 31 _ _ _ rfl
theorem dX2_isJoined_58 : decode cX2_isJoined 58 = .ok (.aload_n 0, 1) := dk_get _ da_cX2_isJoined_0 32 _ _ _ rfl
theorem dX2_isJoined_59 : decode cX2_isJoined 59 = .ok (.getfield 34, 3) := dk_get _ da_cX2_isJoined_0 33 _ _ _ rfl
theorem dX2_isJoined_62 : decode cX2_isJoined 62 = .ok (.iload_n 2, 1) := dk_get _ da_cX2_isJoined_0 34 _ _ _ rfl
theorem dX2_isJoined_63 : decode cX2_isJoined 63 = .ok (.iload_n 3, 1) := dk_get _ da_cX2_isJoined_0 35 _ _ _ rfl
theorem dX2_isJoined_64 : decode cX2_isJoined 64 = .ok (.iadd, 1) := dk_get _ da_cX2_isJoined_0 36 _ _ _ rfl
theorem dX2_isJoined_65 : decode cX2_isJoined 65 = .ok (.iaload, 1) := dk_get _ da_cX2_isJoined_0 37 _ _ _ rfl
theorem dX2_isJoined_66 : decode cX2_isJoined 66 = .ok (.aload_n 0, 1) := dk_get _ da_cX2_isJoined_0 38 _ _ _ rfl
theorem dX2_isJoined_67 : decode cX2_isJoined 67 = .ok (.getfield 12, 3) := dk_get _ da_cX2_isJoined_0 39 _ _ _ rfl
theorem dX2_isJoined_70 : decode cX2_isJoined 70 = .ok (.getfield 96, 3) := dk_get _ da_cX2_isJoined_0 40 _ _ _ rfl
theorem dX2_isJoined_73 : decode cX2_isJoined 73 = .ok (.iload_n 3, 1) := dk_get _ da_cX2_isJoined_0 41 _ _ _ rfl
theorem dX2_isJoined_74 : decode cX2_isJoined 74 = .ok (.iaload, 1) := dk_get _ da_cX2_isJoined_0 42 _ _ _ rfl
theorem dX2_isJoined_75 : decode cX2_isJoined 75 = .ok (.if_icmp .ne 23, 3) := dk_get _ da_cX2_isJoined_0 43 _ _ _ rfl
theorem dX2_isJoined_78 : decode cX2_isJoined 78 = .ok (.aload_n 0, 1) := dk_get _ da_cX2_isJoined_0 44 _ _ _ rfl
theorem dX2_isJoined_79 : decode cX2_isJoined 79 = .ok (.getfield 37, 3) := dk_get _ da_cX2_isJoined_0 45 _ _ _ rfl
theorem dX2_isJoined_82 : decode cX2_isJoined 82 = .ok (.iload_n 2, 1) := dk_get _ da_cX2_isJoined_0 46 _ _ _ rfl
theorem dX2_isJoined_83 : decode cX2_isJoined 83 = .ok (.iload_n 3, 1) := dk_get _ da_cX2_isJoined_0 47 _ _ _ rfl
theorem dX2_isJoined_84 : decode cX2_isJoined 84 = .ok (.iadd, 1) := dk_get _ da_cX2_isJoined_0 48 _ _ _ rfl
theorem dX2_isJoined_85 : decode cX2_isJoined 85 = .ok (.iaload, 1) := dk_get _ da_cX2_isJoined_0 49 _ _ _ rfl
theorem dX2_isJoined_86 : decode cX2_isJoined 86 = .ok (.aload_n 0, 1) := dk_get _ da_cX2_isJoined_0 50 _ _ _ rfl
theorem dX2_isJoined_87 : decode cX2_isJoined 87 = .ok (.getfield 12, 3) := dk_get _ da_cX2_isJoined_0 51 _ _ _ rfl
theorem dX2_isJoined_90 : decode cX2_isJoined 90 = .ok (.getfield 97, 3) := dk_get _ da_cX2_isJoined_0 52 _ _ _ rfl
theorem dX2_isJoined_93 : decode cX2_isJoined 93 = .ok (.iload_n 3, 1) := dk_get _ da_cX2_isJoined_0 53 _ _ _ rfl
theorem dX2_isJoined_94 : decode cX2_isJoined 94 = .ok (.iaload, 1) := dk_get _ da_cX2_isJoined_0 54 _ _ _ rfl
theorem dX2_isJoined_95 : decode cX2_isJoined 95 = .ok (.if_icmp .eq 5, 3) := dk_get _ da_cX2_isJoined_0 55 _ _ _ rfl
theorem dX2_isJoined_98 : decode cX2_isJoined 98 = .ok (.iconst 0, 1) := dk_get _ da_cX2_isJoined_0 56 _ _ _ rfl
theorem dX2_isJoined_99 : decode cX2_isJoined 99 = .ok (.ireturn, 1) := dk_get _ da_cX2_isJoined_0 57 _ _ _ rfl
theorem dX2_isJoined_100 : decode cX2_isJoined 100 = .ok (.iinc 3 1, 3) := dk_get _ da_cX2_isJoined_0 58 _ _ _ rfl
theorem dX2_isJoined_103 : decode cX2_isJoined 103 = .ok (.goto (-62), 3) := dk_get _ da_cX2_isJoined_0 59 _ _ _ rfl
def dt_cX2_isJoined_1 : List (Nat × Instr × Nat) := [(106, .iconst 1, 1), (107, .ireturn, 1)]
theorem da_cX2_isJoined_1 : dk_all cX2_isJoined dt_cX2_isJoined_1 = true := by decide +kernel
theorem dX2_isJoined_106 : decode cX2_isJoined 106 = .ok (.iconst 1, 1) := dk_get _ da_cX2_isJoined_1 0 _ _ _ rfl
theorem dX2_isJoined_107 : decode cX2_isJoined 107 = .ok (.ireturn, 1) := dk_get _ da_cX2_isJoined_1 1 _ _ _ rfl
def dt_cX2_keepJoined_0 : List (Nat × Instr × Nat) := [(0, .iload_n 1, 1), (1, .bipush 6, 2), (3, .imul, 1), (4, .istore_n 2, 1), (5, .iconst 0, 1), (6, .istore_n 3, 1), (7, .iload_n 3, 1), (8, .aload_n 0, 1), (9, .getfield 12, 3), (12, .getfield 94, 3), (15, .if_icmp .ge 49, 3), (18, .iload_n 3, 1), (19, .bipush 6, 2), (21, .if_icmp .ge 43, 3), (24, .aload_n 0, 1), (25, .getfield 34, 3), (28, .iload_n 2, 1), (29, .iload_n 3, 1), (30, .iadd, 1), (31, .aload_n 0, 1), (32, .getfield 12, 3), (35, .getfield 96, 3), (38, .iload_n 3, 1), (39, .iaload, 1), (40, .iastore, 1), (41, .aload_n 0, 1), (42, .getfield 37, 3), (45, .iload_n 2, 1), (46, .iload_n 3, 1), (47, .iadd, 1), (48, .aload_n 0, 1), (49, .getfield 12, 3), (52, .getfield 97, 3), (55, .iload_n 3, 1), (56, .iaload, 1), (57, .iastore, 1), (58, .iinc 3 1, 3), (61, .goto (-54), 3), (64, .aload_n 0, 1), (65, .getfield 25, 3), (68, .iload_n 1, 1), (69, .aload_n 0, 1), (70, .getfield 12, 3), (73, .getfield 94, 3), (76, .bipush 6, 2), (78, .invokestatic 98, 3), (81, .iastore, 1), (82, .aload_n 0, 1), (83, .getfield 28, 3), (86, .iload_n 1, 1), (87, .aload_n 0, 1), (88, .getfield 12, 3), (91, .getfield 91, 3), (94, .iastore, 1), (95, .aload_n 0, 1), (96, .getfield 31, 3), (99, .iload_n 1, 1), (100, .aload_n 0, 1), (101, .getfield 12, 3), (104, .getfield 104, 3)]
theorem da_cX2_keepJoined_0 : dk_all cX2_keepJoined dt_cX2_keepJoined_0 = true := by decide +kernel
theorem dX2_keepJoined_0 : decode cX2_keepJoined 0 = .ok (.iload_n 1, 1) := dk_get _ da_cX2_keepJoined_0 0 _ _ _ rfl
theorem dX2_keepJoined_1 : decode cX2_keepJoined 1 = .ok (.bipush 6, 2) := dk_get _ da_cX2_keepJoined_0 1 _ _ _ rfl
theorem dX2_keepJoined_3 : decode cX2_keepJoined 3 = .ok (.imul, 1) := dk_get _ da_cX2_keepJoined_0 2 _ _ _ rfl
theorem dX2_keepJoined_4 : decode cX2_keepJoined 4 = .ok (.istore_n 2, 1) := dk_get _ da_cX2_keepJoined_0 3 _ _ _ rfl
theorem dX2_keepJoined_5 : decode cX2_keepJoined 5 = .ok (.iconst 0, 1) := dk_get _ da_cX2_keepJoined_0 4 _ _ _ rfl
theorem dX2_keepJoined_6 : decode cX2_keepJoined 6 = .ok (.istore_n 3, 1) := dk_get _ da_cX2_keepJoined_0 5 _ _ _ rfl
theorem dX2_keepJoined_7 : decode cX2_keepJoined 7 = .ok (.iload_n 3, 1) := dk_get _ da_cX2_keepJoined_0 6 _ _ _ rfl
theorem dX2_keepJoined_8 : decode cX2_keepJoined 8 = .ok (.aload_n 0, 1) := dk_get _ da_cX2_keepJoined_0 7 _ _ _ rfl
theorem dX2_keepJoined_9 : decode cX2_keepJoined 9 = .ok (.getfield 12, 3) := dk_get _ da_cX2_keepJoined_0 8 _ _ _ rfl
theorem dX2_keepJoined_12 : decode cX2_keepJoined 12 = .ok (.getfield 94, 3) := dk_get _ da_cX2_keepJoined_0 9 _ _ _ rfl
theorem dX2_keepJoined_15 : decode cX2_keepJoined 15 = .ok (.if_icmp .ge 49, 3) := dk_get _ da_cX2_keepJoined_0 10 _ _ _ rfl
theorem dX2_keepJoined_18 : decode cX2_keepJoined 18 = .ok (.iload_n 3, 1) := dk_get _ da_cX2_keepJoined_0 11 _ _ _ rfl
theorem dX2_keepJoined_19 : decode cX2_keepJoined 19 = .ok (.bipush 6, 2) := dk_get _ da_cX2_keepJoined_0 12 _ _ _ rfl
theorem dX2_keepJoined_21 : decode cX2_keepJoined 21 = .ok (.if_icmp .ge 43, 3) := dk_get _ da_cX2_keepJoined_0 13 _ _ _ rfl
theorem dX2_keepJoined_24 : decode cX2_keepJoined 24 = .ok (.aload_n 0, 1) := dk_get _ da_cX2_keepJoined_0 14 _ _ _ rfl
theorem dX2_keepJoined_25 : decode cX2_keepJoined 25 = .ok (.getfield 34, 3) := dk_get _ da_cX2_keepJoined_0 15 _ _ _ rfl
theorem dX2_keepJoined_28 : decode cX2_keepJoined 28 = .ok (.iload_n 2, 1) := dk_get _ da_cX2_keepJoined_0 16 _ _ _ rfl
theorem dX2_keepJoined_29 : decode cX2_keepJoined 29 = .ok (.iload_n 3, 1) := dk_get _ da_cX2_keepJoined_0 17 _ _ _ rfl
theorem dX2_keepJoined_30 : decode cX2_keepJoined 30 = .ok (.iadd, 1) := dk_get _ da_cX2_keepJoined_0 18 _ _ _ rfl
theorem dX2_keepJoined_31 : decode cX2_keepJoined 31 = .ok (.aload_n 0, 1) := dk_get _ da_cX2_keepJoined_0 19 _ _ _ rfl
theorem dX2_keepJoined_32 : decode cX2_keepJoined 32 = .ok (.getfield 12, 3) := dk_get _ da_cX2_keepJoined_0 20 _ _ _ rfl
theorem dX2_keepJoined_35 : decode cX2_keepJoined 35 = .ok (.getfield 96, 3) := dk_get _ da_cX2_keepJoined_0 21 _ _ _ rfl
theorem dX2_keepJoined_38 : decode cX2_keepJoined 38 = .ok (.iload_n 3, 1) := dk_get _ da_cX2_keepJoined_0 22 _ _ _ rfl
theorem dX2_keepJoined_39 : decode cX2_keepJoined 39 = .ok (.iaload, 1) := dk_get _ da_cX2_keepJoined_0 23 _ _ _ rfl
theorem dX2_keepJoined_40 : decode cX2_keepJoined 40 = .ok (.iastore, 1) := dk_get _ da_cX2_keepJoined_0 24 _ _ _ rfl
theorem dX2_keepJoined_41 : decode cX2_keepJoined 41 = .ok (.aload_n 0, 1) := dk_get _ da_cX2_keepJoined_0 25 _ _ _ rfl
theorem dX2_keepJoined_42 : decode cX2_keepJoined 42 = .ok (.getfield 37, 3) := dk_get _ da_cX2_keepJoined_0 26 _ _ _ rfl
theorem dX2_keepJoined_45 : decode cX2_keepJoined 45 = .ok (.iload_n 2, 1) := dk_get _ da_cX2_keepJoined_0 27 _ _ _ rfl
theorem dX2_keepJoined_46 : decode cX2_keepJoined 46 = .ok (.iload_n 3, 1) := dk_get _ da_cX2_keepJoined_0 28 _ _ _ rfl
theorem dX2_keepJoined_47 : decode cX2_keepJoined 47 = .ok (.iadd, 1) := dk_get _ da_cX2_keepJoined_0 29 _ _ _ rfl
theorem dX2_keepJoined_48 : decode cX2_keepJoined 48 = .ok (.aload_n 0, 1) := dk_get _ da_cX2_keepJoined_0 30 _ _ _ rfl
theorem dX2_keepJoined_49 : decode cX2_keepJoined 49 = .ok (.getfield 12, 3) := dk_get _ da_cX2_keepJoined_0 31 _ _ _ rfl
theorem dX2_keepJoined_52 : decode cX2_keepJoined 52 = .ok (.getfield 97, 3) := dk_get _ da_cX2_keepJoined_0 32 _ _ _ rfl
theorem dX2_keepJoined_55 : decode cX2_keepJoined 55 = .ok (.iload_n 3, 1) := dk_get _ da_cX2_keepJoined_0 33 _ _ _ rfl
theorem dX2_keepJoined_56 : decode cX2_keepJoined 56 = .ok (.iaload, 1) := dk_get _ da_cX2_keepJoined_0 34 _ _ _ rfl
theorem dX2_keepJoined_57 : decode cX2_keepJoined 57 = .ok (.iastore, 1) := dk_get _ da_cX2_keepJoined_0 35 _ _ _ rfl
theorem dX2_keepJoined_58 : decode cX2_keepJoined 58 = .ok (.iinc 3 1, 3) := dk_get _ da_cX2_keepJoined_0 36 _ _ _ rfl
theorem dX2_keepJoined_61 : decode cX2_keepJoined 61 = .ok (.goto (-54), 3) := dk_get _ da_cX2_keepJoined_0 37 _ _ _ rfl
theorem dX2_keepJoined_64 : decode cX2_keepJoined 64 = .ok (.aload_n 0, 1) := dk_get _ da_cX2_keepJoined_0 38 _ _ _ rfl
theorem dX2_keepJoined_65 : decode cX2_keepJoined 65 = .ok (.getfield 25, 3) := dk_get _ da_cX2_keepJoined_0 39 _ _ _ rfl
theorem dX2_keepJoined_68 : decode cX2_keepJoined 68 = .ok (.iload_n 1, 1) := dk_get _ da_cX2_keepJoined_0 40 _ _ _ rfl
theorem dX2_keepJoined_69 : decode cX2_keepJoined 69 = .ok (.aload_n 0, 1) := dk_get _ da_cX2_keepJoined_0 41 _ _ _ rfl
theorem dX2_keepJoined_70 : decode cX2_keepJoined 70 = .ok (.getfield 12, 3) := dk_get _ da_cX2_keepJoined_0 42 _ _ _ rfl
theorem dX2_keepJoined_73 : decode cX2_keepJoined 73 = .ok (.getfield 94, 3) := dk_get _ da_cX2_keepJoined_0 43 _ _ _ rfl
theorem dX2_keepJoined_76 : decode cX2_keepJoined 76 = .ok (.bipush 6, 2) := dk_get _ da_cX2_keepJoined_0 44 _ _ _ rfl
theorem dX2_keepJoined_78 : decode cX2_keepJoined 78 = .ok (.invokestatic 98, 3) := dk_get _ da_cX2_keepJoined_0 45 _ _ _ rfl
theorem dX2_keepJoined_81 : decode cX2_keepJoined 81 = .ok (.iastore, 1) := dk_get _ da_cX2_keepJoined_0 46 _ _ _ rfl
theorem dX2_keepJoined_82 : decode cX2_keepJoined 82 = .ok (.aload_n 0, 1) := dk_get _ da_cX2_keepJoined_0 47 _ _ _ rfl
theorem dX2_keepJoined_83 : decode cX2_keepJoined 83 = .ok (.getfield 28, 3) := dk_get _ da_cX2_keepJoined_0 48 _ _ _ rfl
theorem dX2_keepJoined_86 : decode cX2_keepJoined 86 = .ok (.iload_n 1, 1) := dk_get _ da_cX2_keepJoined_0 49 _ _ _ rfl
theorem dX2_keepJoined_87 : decode cX2_keepJoined 87 = .ok (.aload_n 0, 1) := dk_get _ da_cX2_keepJoined_0 50 _ _ _ rfl
theorem dX2_keepJoined_88 : decode cX2_keepJoined 88 = .ok (.getfield 12, 3) := dk_get _ da_cX2_keepJoined_0 51 _ _ _ rfl
theorem dX2_keepJoined_91 : decode cX2_keepJoined 91 = .ok (.getfield 91, 3) := dk_get _ da_cX2_keepJoined_0 52 _ _ _ rfl
theorem dX2_keepJoined_94 : decode cX2_keepJoined 94 = .ok (.iastore, 1) := dk_get _ da_cX2_keepJoined_0 53 _ _ _ rfl
theorem dX2_keepJoined_95 : decode cX2_keepJoined 95 = .ok (.aload_n 0, 1) := dk_get _ da_cX2_keepJoined_0 54 _ _ _ rfl
theorem dX2_keepJoined_96 : decode cX2_keepJoined 96 = .ok (.getfield 31, 3) := dk_get _ da_cX2_keepJoined_0 55 _ _ _ rfl
theorem dX2_keepJoined_99 : decode cX2_keepJoined 99 = .ok (.iload_n 1, 1) := dk_get _ da_cX2_keepJoined_0 56 _ _ _ rfl
theorem dX2_keepJoined_100 : decode cX2_keepJoined 100 = .ok (.aload_n 0, 1) := dk_get _ da_cX2_keepJoined_0 57 _ _ _ rfl
theorem dX2_keepJoined_101 : decode cX2_keepJoined 101 = .ok (.getfield 12, 3) := dk_get _ da_cX2_keepJoined_0 58 _ _ _ rfl
theorem dX2_keepJoined_104 : decode cX2_keepJoined 104 = .ok (.getfield 104, 3) := dk_get _ da_cX2_keepJoined_0 59 _ _ _ rfl
def dt_cX2_keepJoined_1 : List (Nat × Instr × Nat) := [(107, .iastore, 1), (108, .return_, 1)]
theorem da_cX2_keepJoined_1 : dk_all cX2_keepJoined dt_cX2_keepJoined_1 = true := by decide +kernel
theorem dX2_keepJoined_107 : decode cX2_keepJoined 107 = .ok (.iastore, 1) := dk_get _ da_cX2_keepJoined_1 0 _ _ _ rfl
theorem dX2_keepJoined_108 : decode cX2_keepJoined 108 = .ok (.return_, 1) := dk_get _ da_cX2_keepJoined_1 1 _ _ _ rfl
set_option maxRecDepth 20000 in
theorem ggX2_copyTo_X3_clear : GoodIn wsX2_copyTo wsX3_clear := goodIn_r _ [5, 6, 7, 8, 25, 26, 27, 28, 29] rfl (by decide +kernel)
set_option maxRecDepth 20000 in
theorem gX2_copyTo_X3_clear : GoodIn wsX2_copyTo (wsV RX2 71 RX3 yX3_clear wsX3_clear) := goodIn_app (goodIn_r _ [1, 2, 3, 4] rfl (by decide +kernel)) ggX2_copyTo_X3_clear
set_option maxRecDepth 20000 in
theorem ggX2_copyTo_X2_joinNode : GoodIn wsX2_copyTo wsX2_joinNode := goodIn_r _ [13, 14, 15, 16, 17, 18, 19, 20, 21, 4, 22, 6, 23, 24, 30, 31, 32, 33, 34, 35, 36, 37, 38, 39, 40, 25, 26, 27, 28, 29] rfl (by decide +kernel)
set_option maxRecDepth 20000 in
theorem gX2_copyTo_X2_joinNode : GoodIn wsX2_copyTo (wsV RX2 81 RX2 yX2_joinNode wsX2_joinNode) := goodIn_app (goodIn_r _ [9, 10, 11, 12] rfl (by decide +kernel)) ggX2_copyTo_X2_joinNode
def dt_cX2_copyTo_0 : List (Nat × Instr × Nat) := [(0, .aload_n 1, 1), (1, .invokevirtual 71, 3), (4, .aload_n 0, 1), (5, .aload_n 1, 1), (6, .iload_n 2, 1), (7, .invokevirtual 81, 3), (10, .return_, 1)]
theorem da_cX2_copyTo_0 : dk_all cX2_copyTo dt_cX2_copyTo_0 = true := by decide +kernel
theorem dX2_copyTo_0 : decode cX2_copyTo 0 = .ok (.aload_n 1, 1) := dk_get _ da_cX2_copyTo_0 0 _ _ _ rfl
theorem dX2_copyTo_1 : decode cX2_copyTo 1 = .ok (.invokevirtual 71, 3) := dk_get _ da_cX2_copyTo_0 1 _ _ _ rfl
theorem dX2_copyTo_4 : decode cX2_copyTo 4 = .ok (.aload_n 0, 1) := dk_get _ da_cX2_copyTo_0 2 _ _ _ rfl
theorem dX2_copyTo_5 : decode cX2_copyTo 5 = .ok (.aload_n 1, 1) := dk_get _ da_cX2_copyTo_0 3 _ _ _ rfl
theorem dX2_copyTo_6 : decode cX2_copyTo 6 = .ok (.iload_n 2, 1) := dk_get _ da_cX2_copyTo_0 4 _ _ _ rfl
theorem dX2_copyTo_7 : decode cX2_copyTo 7 = .ok (.invokevirtual 81, 3) := dk_get _ da_cX2_copyTo_0 5 _ _ _ rfl
theorem dX2_copyTo_10 : decode cX2_copyTo 10 = .ok (.return_, 1) := dk_get _ da_cX2_copyTo_0 6 _ _ _ rfl
def dt_cX2_find_0 : List (Nat × Instr × Nat) := [(0, .iconst 0, 1), (1, .istore_n 3, 1), (2, .iload_n 3, 1), (3, .aload_n 0, 1), (4, .getfield 50, 3), (7, .if_icmp .ge 31, 3), (10, .aload_n 0, 1), (11, .getfield 18, 3), (14, .iload_n 3, 1), (15, .iaload, 1), (16, .iload_n 1, 1), (17, .if_icmp .ne 15, 3), (20, .aload_n 0, 1), (21, .getfield 22, 3), (24, .iload_n 3, 1), (25, .iaload, 1), (26, .iload_n 2, 1), (27, .if_icmp .ne 5, 3), (30, .iload_n 3, 1), (31, .ireturn, 1), (32, .iinc 3 1, 3), (35, .goto (-33), 3), (38, .iconst (-1), 1), (39, .ireturn, 1)]
theorem da_cX2_find_0 : dk_all cX2_find dt_cX2_find_0 = true := by decide +kernel
theorem dX2_find_0 : decode cX2_find 0 = .ok (.iconst 0, 1) := dk_get _ da_cX2_find_0 0 _ _ _ rfl
theorem dX2_find_1 : decode cX2_find 1 = .ok (.istore_n 3, 1) := dk_get _ da_cX2_find_0 1 _ _ _ rfl
theorem dX2_find_2 : decode cX2_find 2 = .ok (.iload_n 3, 1) := dk_get _ da_cX2_find_0 2 _ _ _ rfl
theorem dX2_find_3 : decode cX2_find 3 = .ok (.aload_n 0, 1) := dk_get _ da_cX2_find_0 3 _ _ _ rfl
theorem dX2_find_4 : decode cX2_find 4 = .ok (.getfield 50, 3) := dk_get _ da_cX2_find_0 4 _ _ _ rfl
theorem dX2_find_7 : decode cX2_find 7 = .ok (.if_icmp .ge 31, 3) := dk_get _ da_cX2_find_0 5 _ _ _ rfl
theorem dX2_find_10 : decode cX2_find 10 = .ok (.aload_n 0, 1) := dk_get _ da_cX2_find_0 6 _ _ _ rfl
theorem dX2_find_11 : decode cX2_find 11 = .ok (.getfield 18, 3) := dk_get _ da_cX2_find_0 7 _ _ _ rfl
theorem dX2_find_14 : decode cX2_find 14 = .ok (.iload_n 3, 1) := dk_get _ da_cX2_find_0 8 _ _ _ rfl
theorem dX2_find_15 : decode cX2_find 15 = .ok (.iaload, 1) := dk_get _ da_cX2_find_0 9 _ _ _ rfl
theorem dX2_find_16 : decode cX2_find 16 = .ok (.iload_n 1, 1) := dk_get _ da_cX2_find_0 10 _ _ _ rfl
theorem dX2_find_17 : decode cX2_find 17 = .ok (.if_icmp .ne 15, 3) := dk_get _ da_cX2_find_0 11 _ _ _ rfl
theorem dX2_find_20 : decode cX2_find 20 = .ok (.aload_n 0, 1) := dk_get _ da_cX2_find_0 12 _ _ _ rfl
theorem dX2_find_21 : decode cX2_find 21 = .ok (.getfield 22, 3) := dk_get _ da_cX2_find_0 13 _ _ _ rfl
theorem dX2_find_24 : decode cX2_find 24 = .ok (.iload_n 3, 1) := dk_get _ da_cX2_find_0 14 _ _ _ rfl
theorem dX2_find_25 : decode cX2_find 25 = .ok (.iaload, 1) := dk_get _ da_cX2_find_0 15 _ _ _ rfl
theorem dX2_find_26 : decode cX2_find 26 = .ok (.iload_n 2, 1) := dk_get _ da_cX2_find_0 16 _ _ _ rfl
theorem dX2_find_27 : decode cX2_find 27 = .ok (.if_icmp .ne 5, 3) := dk_get _ da_cX2_find_0 17 _ _ _ rfl
theorem dX2_find_30 : decode cX2_find 30 = .ok (.iload_n 3, 1) := dk_get _ da_cX2_find_0 18 _ _ _ rfl
theorem dX2_find_31 : decode cX2_find 31 = .ok (.ireturn, 1) := dk_get _ da_cX2_find_0 19 _ _ _ rfl
theorem dX2_find_32 : decode cX2_find 32 = .ok (.iinc 3 1, 3) := dk_get _ da_cX2_find_0 20 _ _ _ rfl
theorem dX2_find_35 : decode cX2_find 35 = .ok (.goto (-33), 3) := dk_get _ da_cX2_find_0 21 _ _ _ rfl
theorem dX2_find_38 : decode cX2_find 38 = .ok (.iconst (-1), 1) := dk_get _ da_cX2_find_0 22 _ _ _ rfl
theorem dX2_find_39 : decode cX2_find 39 = .ok (.ireturn, 1) := dk_get _ da_cX2_find_0 23 _ _ _ rfl
def dt_cX2_isPart_0 : List (Nat × Instr × Nat) := [(0, .aload_n 0, 1), (1, .getfield 18, 3), (4, .iload_n 1, 1), (5, .iaload, 1), (6, .iload_n 2, 1), (7, .if_icmp .ne 17, 3), (10, .aload_n 0, 1), (11, .getfield 22, 3), (14, .iload_n 1, 1), (15, .iaload, 1), (16, .iload_n 3, 1), (17, .if_icmp .gt 7, 3), (20, .iconst 1, 1), (21, .goto 4, 3), (24, .iconst 0, 1), (25, .ireturn, 1)]
theorem da_cX2_isPart_0 : dk_all cX2_isPart dt_cX2_isPart_0 = true := by decide +kernel
theorem dX2_isPart_0 : decode cX2_isPart 0 = .ok (.aload_n 0, 1) := dk_get _ da_cX2_isPart_0 0 _ _ _ rfl
theorem dX2_isPart_1 : decode cX2_isPart 1 = .ok (.getfield 18, 3) := dk_get _ da_cX2_isPart_0 1 _ _ _ rfl
theorem dX2_isPart_4 : decode cX2_isPart 4 = .ok (.iload_n 1, 1) := dk_get _ da_cX2_isPart_0 2 _ _ _ rfl
theorem dX2_isPart_5 : decode cX2_isPart 5 = .ok (.iaload, 1) := dk_get _ da_cX2_isPart_0 3 _ _ _ rfl
theorem dX2_isPart_6 : decode cX2_isPart 6 = .ok (.iload_n 2, 1) := dk_get _ da_cX2_isPart_0 4 _ _ _ rfl
theorem dX2_isPart_7 : decode cX2_isPart 7 = .ok (.if_icmp .ne 17, 3) := dk_get _ da_cX2_isPart_0 5 _ _ _ rfl
theorem dX2_isPart_10 : decode cX2_isPart 10 = .ok (.aload_n 0, 1) := dk_get _ da_cX2_isPart_0 6 _ _ _ rfl
theorem dX2_isPart_11 : decode cX2_isPart 11 = .ok (.getfield 22, 3) := dk_get _ da_cX2_isPart_0 7 _ _ _ rfl
theorem dX2_isPart_14 : decode cX2_isPart 14 = .ok (.iload_n 1, 1) := dk_get _ da_cX2_isPart_0 8 _ _ _ rfl
theorem dX2_isPart_15 : decode cX2_isPart 15 = .ok (.iaload, 1) := dk_get _ da_cX2_isPart_0 9 _ _ _ rfl
theorem dX2_isPart_16 : decode cX2_isPart 16 = .ok (.iload_n 3, 1) := dk_get _ da_cX2_isPart_0 10 _ _ _ rfl
theorem dX2_isPart_17 : decode cX2_isPart 17 = .ok (.if_icmp .gt 7, 3) := dk_get _ da_cX2_isPart_0 11 _ _ _ rfl
theorem dX2_isPart_20 : decode cX2_isPart 20 = .ok (.iconst 1, 1) := dk_get _ da_cX2_isPart_0 12 _ _ _ rfl
theorem dX2_isPart_21 : decode cX2_isPart 21 = .ok (.goto 4, 3) := dk_get _ da_cX2_isPart_0 13 _ _ _ rfl
theorem dX2_isPart_24 : decode cX2_isPart 24 = .ok (.iconst 0, 1) := dk_get _ da_cX2_isPart_0 14 _ _ _ rfl
theorem dX2_isPart_25 : decode cX2_isPart 25 = .ok (.ireturn, 1) := dk_get _ da_cX2_isPart_0 15 _ _ _ rfl
theorem mi_wsX2_gather_wsX2_gather_r1 : ∀ w ∈ wsX2_gather_r1, w ∈ wsX2_gather := fun _ h => (List.mem_cons_of_mem _ (List.mem_append_left _ (List.mem_append_left _ (List.mem_append_left _ h))))
theorem mi_wsX2_gather_wsX30 : ∀ w ∈ wsX30, w ∈ wsX2_gather := fun _ h => (List.mem_cons_of_mem _ (List.mem_append_right _ h))
set_option maxRecDepth 20000 in
theorem ggX2_gather_X3_clear : GoodIn wsX2_gather wsX3_clear := goodIn_k _ [(wsX2_gather_r1, [7, 8, 9, 10]), (wsX30, [0, 1, 2, 3, 4])] (gk_c mi_wsX2_gather_wsX2_gather_r1 (gk_c mi_wsX2_gather_wsX30 gk_n)) rfl (by decide +kernel)
set_option maxRecDepth 20000 in
theorem gX2_gather_X3_clear : GoodIn wsX2_gather (wsV RX2 71 RX3 yX3_clear wsX3_clear) := goodIn_app (goodIn_k _ [(wsX2_gather_r1, [3, 4, 5, 6])] (gk_c mi_wsX2_gather_wsX2_gather_r1 gk_n) rfl (by decide +kernel)) ggX2_gather_X3_clear
theorem mi_wsX2_gather_wsX20 : ∀ w ∈ wsX20, w ∈ wsX2_gather := fun _ h => (List.mem_cons_of_mem _ (List.mem_append_left _ (List.mem_append_right _ h)))
set_option maxRecDepth 20000 in
theorem ggX2_gather_X2_isPart : GoodIn wsX2_gather wsX2_isPart := goodIn_k _ [(wsX2_gather_r1, [15, 16, 1]), (wsX20, [0, 1, 2, 3, 4, 5, 6, 7, 8, 9, 10])] (gk_c mi_wsX2_gather_wsX2_gather_r1 (gk_c mi_wsX2_gather_wsX20 gk_n)) rfl (by decide +kernel)
set_option maxRecDepth 20000 in
theorem gX2_gather_X2_isPart : GoodIn wsX2_gather (wsV RX2 106 RX2 yX2_isPart wsX2_isPart) := goodIn_app (goodIn_k _ [(wsX2_gather_r1, [11, 12, 13, 14])] (gk_c mi_wsX2_gather_wsX2_gather_r1 gk_n) rfl (by decide +kernel)) ggX2_gather_X2_isPart
theorem mi_wsX2_gather_wsX2_gather_r2 : ∀ w ∈ wsX2_gather_r2, w ∈ wsX2_gather := fun _ h => (List.mem_cons_of_mem _ (List.mem_append_left _ (List.mem_append_left _ (List.mem_append_right _ h))))
set_option maxRecDepth 20000 in
theorem ggX2_gather_X2_joinNode : GoodIn wsX2_gather wsX2_joinNode := goodIn_k _ [(wsX2_gather_r1, [20, 21, 22, 23]), (wsX2_gather_r2, [0, 1, 2, 3, 4]), (wsX2_gather_r1, [6]), (wsX2_gather_r2, [5]), (wsX2_gather_r1, [8]), (wsX2_gather_r2, [6, 7]), (wsX20, [0, 1, 2, 3, 4, 5, 6, 7, 8, 9, 10]), (wsX30, [0, 1, 2, 3, 4])] (gk_c mi_wsX2_gather_wsX2_gather_r1 (gk_c mi_wsX2_gather_wsX2_gather_r2 (gk_c mi_wsX2_gather_wsX2_gather_r1 (gk_c mi_wsX2_gather_wsX2_gather_r2 (gk_c mi_wsX2_gather_wsX2_gather_r1 (gk_c mi_wsX2_gather_wsX2_gather_r2 (gk_c mi_wsX2_gather_wsX20 (gk_c mi_wsX2_gather_wsX30 gk_n)))))))) rfl (by decide +kernel)
set_option maxRecDepth 20000 in
theorem gX2_gather_X2_joinNode : GoodIn wsX2_gather (wsV RX2 81 RX2 yX2_joinNode wsX2_joinNode) := goodIn_app (goodIn_k _ [(wsX2_gather_r1, [17, 18, 19, 14])] (gk_c mi_wsX2_gather_wsX2_gather_r1 gk_n) rfl (by decide +kernel)) ggX2_gather_X2_joinNode
set_option maxRecDepth 20000 in
theorem ggX2_gather_X3_cancel : GoodIn wsX2_gather wsX3_cancel := goodIn_k _ [(wsX2_gather_r2, [11]), (wsX2_gather_r1, [8]), (wsX2_gather_r2, [7]), (wsX2_gather_r1, [10, 9]), (wsX2_gather_r2, [12, 13, 14]), (wsX2_gather_r1, [6]), (wsX2_gather_r2, [15, 16, 17, 18, 19, 6, 20, 21, 22, 23]), (wsX30, [0, 1, 2, 3, 4])] (gk_c mi_wsX2_gather_wsX2_gather_r2 (gk_c mi_wsX2_gather_wsX2_gather_r1 (gk_c mi_wsX2_gather_wsX2_gather_r2 (gk_c mi_wsX2_gather_wsX2_gather_r1 (gk_c mi_wsX2_gather_wsX2_gather_r2 (gk_c mi_wsX2_gather_wsX2_gather_r1 (gk_c mi_wsX2_gather_wsX2_gather_r2 (gk_c mi_wsX2_gather_wsX30 gk_n)))))))) rfl (by decide +kernel)
set_option maxRecDepth 20000 in
theorem gX2_gather_X3_cancel : GoodIn wsX2_gather (wsV RX2 88 RX3 yX3_cancel wsX3_cancel) := goodIn_app (goodIn_k _ [(wsX2_gather_r2, [8, 9, 10]), (wsX2_gather_r1, [6])] (gk_c mi_wsX2_gather_wsX2_gather_r2 (gk_c mi_wsX2_gather_wsX2_gather_r1 gk_n)) rfl (by decide +kernel)) ggX2_gather_X3_cancel
def dt_cX2_gather_0 : List (Nat × Instr × Nat) := [(0, .aload_n 1, 1), (1, .invokevirtual 71, 3), (4, .iload_n 2, 1), (5, .istore 4, 2), (7, .iconst 0, 1), (8, .istore 5, 2), (10, .iload 5, 2), (12, .aload_n 0, 1), (13, .getfield 50, 3), (16, .if_icmp .ge 45, 3), (19, .aload_n 0, 1), (20, .iload 5, 2), (22, .iload 4, 2), (24, .iload_n 3, 1), (25, .invokevirtual 106, 3), (28, .ifCond .eq 27, 3), (31, .aload_n 0, 1), (32, .getfield 22, 3), (35, .iload 5, 2), (37, .iaload, 1), (38, .istore 4, 2), (40, .aload_n 0, 1), (41, .aload_n 1, 1), (42, .iload 5, 2), (44, .invokevirtual 81, 3), (47, .aload_n 1, 1), (48, .aload_n 0, 1), (49, .getfield 85, 3), (52, .invokevirtual 88, 3), (55, .iinc 5 1, 3), (58, .goto (-48), 3), (61, .return_, 1)]
theorem da_cX2_gather_0 : dk_all cX2_gather dt_cX2_gather_0 = true := by decide +kernel
theorem dX2_gather_0 : decode cX2_gather 0 = .ok (.aload_n 1, 1) := dk_get _ da_cX2_gather_0 0 _ _ _ rfl
theorem dX2_gather_1 : decode cX2_gather 1 = .ok (.invokevirtual 71, 3) := dk_get _ da_cX2_gather_0 1 _ _ _ rfl
theorem dX2_gather_4 : decode cX2_gather 4 = .ok (.iload_n 2, 1) := dk_get _ da_cX2_gather_0 2 _ _ _ rfl
theorem dX2_gather_5 : decode cX2_gather 5 = .ok (.istore 4, 2) := dk_get _ da_cX2_gather_0 3 _ _ _ rfl
theorem dX2_gather_7 : decode cX2_gather 7 = .ok (.iconst 0, 1) := dk_get _ da_cX2_gather_0 4 _ _ _ rfl
theorem dX2_gather_8 : decode cX2_gather 8 = .ok (.istore 5, 2) := dk_get _ da_cX2_gather_0 5 _ _ _ rfl
theorem dX2_gather_10 : decode cX2_gather 10 = .ok (.iload 5, 2) := dk_get _ da_cX2_gather_0 6 _ _ _ rfl
theorem dX2_gather_12 : decode cX2_gather 12 = .ok (.aload_n 0, 1) := dk_get _ da_cX2_gather_0 7 _ _ _ rfl
theorem dX2_gather_13 : decode cX2_gather 13 = .ok (.getfield 50, 3) := dk_get _ da_cX2_gather_0 8 _ _ _ rfl
theorem dX2_gather_16 : decode cX2_gather 16 = .ok (.if_icmp .ge 45, 3) := dk_get _ da_cX2_gather_0 9 _ _ _ rfl
theorem dX2_gather_19 : decode cX2_gather 19 = .ok (.aload_n 0, 1) := dk_get _ da_cX2_gather_0 10 _ _ _ rfl
theorem dX2_gather_20 : decode cX2_gather 20 = .ok (.iload 5, 2) := dk_get _ da_cX2_gather_0 11 _ _ _ rfl
theorem dX2_gather_22 : decode cX2_gather 22 = .ok (.iload 4, 2) := dk_get _ da_cX2_gather_0 12 _ _ _ rfl
theorem dX2_gather_24 : decode cX2_gather 24 = .ok (.iload_n 3, 1) := dk_get _ da_cX2_gather_0 13 _ _ _ rfl
theorem dX2_gather_25 : decode cX2_gather 25 = .ok (.invokevirtual 106, 3) := dk_get _ da_cX2_gather_0 14 _ _ _ rfl
theorem dX2_gather_28 : decode cX2_gather 28 = .ok (.ifCond .eq 27, 3) := dk_get _ da_cX2_gather_0 15 _ _ _ rfl
theorem dX2_gather_31 : decode cX2_gather 31 = .ok (.aload_n 0, 1) := dk_get _ da_cX2_gather_0 16 _ _ _ rfl
theorem dX2_gather_32 : decode cX2_gather 32 = .ok (.getfield 22, 3) := dk_get _ da_cX2_gather_0 17 _ _ _ rfl
theorem dX2_gather_35 : decode cX2_gather 35 = .ok (.iload 5, 2) := dk_get _ da_cX2_gather_0 18 _ _ _ rfl
theorem dX2_gather_37 : decode cX2_gather 37 = .ok (.iaload, 1) := dk_get _ da_cX2_gather_0 19 _ _ _ rfl
theorem dX2_gather_38 : decode cX2_gather 38 = .ok (.istore 4, 2) := dk_get _ da_cX2_gather_0 20 _ _ _ rfl
theorem dX2_gather_40 : decode cX2_gather 40 = .ok (.aload_n 0, 1) := dk_get _ da_cX2_gather_0 21 _ _ _ rfl
theorem dX2_gather_41 : decode cX2_gather 41 = .ok (.aload_n 1, 1) := dk_get _ da_cX2_gather_0 22 _ _ _ rfl
theorem dX2_gather_42 : decode cX2_gather 42 = .ok (.iload 5, 2) := dk_get _ da_cX2_gather_0 23 _ _ _ rfl
theorem dX2_gather_44 : decode cX2_gather 44 = .ok (.invokevirtual 81, 3) := dk_get _ da_cX2_gather_0 24 _ _ _ rfl
theorem dX2_gather_47 : decode cX2_gather 47 = .ok (.aload_n 1, 1) := dk_get _ da_cX2_gather_0 25 _ _ _ rfl
theorem dX2_gather_48 : decode cX2_gather 48 = .ok (.aload_n 0, 1) := dk_get _ da_cX2_gather_0 26 _ _ _ rfl
theorem dX2_gather_49 : decode cX2_gather 49 = .ok (.getfield 85, 3) := dk_get _ da_cX2_gather_0 27 _ _ _ rfl
theorem dX2_gather_52 : decode cX2_gather 52 = .ok (.invokevirtual 88, 3) := dk_get _ da_cX2_gather_0 28 _ _ _ rfl
theorem dX2_gather_55 : decode cX2_gather 55 = .ok (.iinc 5 1, 3) := dk_get _ da_cX2_gather_0 29 _ _ _ rfl
theorem dX2_gather_58 : decode cX2_gather 58 = .ok (.goto (-48), 3) := dk_get _ da_cX2_gather_0 30 _ _ _ rfl
theorem dX2_gather_61 : decode cX2_gather 61 = .ok (.return_, 1) := dk_get _ da_cX2_gather_0 31 _ _ _ rfl
def dt_cX2_hasPlace_0 : List (Nat × Instr × Nat) := [(0, .aload_n 0, 1), (1, .getfield 18, 3), (4, .iload_n 1, 1), (5, .iaload, 1), (6, .iload_n 2, 1), (7, .if_icmp .gt 17, 3), (10, .iload_n 2, 1), (11, .aload_n 0, 1), (12, .getfield 22, 3), (15, .iload_n 1, 1), (16, .iaload, 1), (17, .if_icmp .ge 7, 3), (20, .iconst 1, 1), (21, .goto 4, 3), (24, .iconst 0, 1), (25, .ireturn, 1)]
theorem da_cX2_hasPlace_0 : dk_all cX2_hasPlace dt_cX2_hasPlace_0 = true := by decide +kernel
theorem dX2_hasPlace_0 : decode cX2_hasPlace 0 = .ok (.aload_n 0, 1) := dk_get _ da_cX2_hasPlace_0 0 _ _ _ rfl
theorem dX2_hasPlace_1 : decode cX2_hasPlace 1 = .ok (.getfield 18, 3) := dk_get _ da_cX2_hasPlace_0 1 _ _ _ rfl
theorem dX2_hasPlace_4 : decode cX2_hasPlace 4 = .ok (.iload_n 1, 1) := dk_get _ da_cX2_hasPlace_0 2 _ _ _ rfl
theorem dX2_hasPlace_5 : decode cX2_hasPlace 5 = .ok (.iaload, 1) := dk_get _ da_cX2_hasPlace_0 3 _ _ _ rfl
theorem dX2_hasPlace_6 : decode cX2_hasPlace 6 = .ok (.iload_n 2, 1) := dk_get _ da_cX2_hasPlace_0 4 _ _ _ rfl
theorem dX2_hasPlace_7 : decode cX2_hasPlace 7 = .ok (.if_icmp .gt 17, 3) := dk_get _ da_cX2_hasPlace_0 5 _ _ _ rfl
theorem dX2_hasPlace_10 : decode cX2_hasPlace 10 = .ok (.iload_n 2, 1) := dk_get _ da_cX2_hasPlace_0 6 _ _ _ rfl
theorem dX2_hasPlace_11 : decode cX2_hasPlace 11 = .ok (.aload_n 0, 1) := dk_get _ da_cX2_hasPlace_0 7 _ _ _ rfl
theorem dX2_hasPlace_12 : decode cX2_hasPlace 12 = .ok (.getfield 22, 3) := dk_get _ da_cX2_hasPlace_0 8 _ _ _ rfl
theorem dX2_hasPlace_15 : decode cX2_hasPlace 15 = .ok (.iload_n 1, 1) := dk_get _ da_cX2_hasPlace_0 9 _ _ _ rfl
theorem dX2_hasPlace_16 : decode cX2_hasPlace 16 = .ok (.iaload, 1) := dk_get _ da_cX2_hasPlace_0 10 _ _ _ rfl
theorem dX2_hasPlace_17 : decode cX2_hasPlace 17 = .ok (.if_icmp .ge 7, 3) := dk_get _ da_cX2_hasPlace_0 11 _ _ _ rfl
theorem dX2_hasPlace_20 : decode cX2_hasPlace 20 = .ok (.iconst 1, 1) := dk_get _ da_cX2_hasPlace_0 12 _ _ _ rfl
theorem dX2_hasPlace_21 : decode cX2_hasPlace 21 = .ok (.goto 4, 3) := dk_get _ da_cX2_hasPlace_0 13 _ _ _ rfl
theorem dX2_hasPlace_24 : decode cX2_hasPlace 24 = .ok (.iconst 0, 1) := dk_get _ da_cX2_hasPlace_0 14 _ _ _ rfl
theorem dX2_hasPlace_25 : decode cX2_hasPlace 25 = .ok (.ireturn, 1) := dk_get _ da_cX2_hasPlace_0 15 _ _ _ rfl
set_option maxRecDepth 20000 in
theorem ggX2_depthAt_X2_hasPlace : GoodIn wsX2_depthAt wsX2_hasPlace := goodIn_r _ [6, 7, 8, 9, 10, 11, 12, 13, 14, 15, 16, 17, 18, 19] rfl (by decide +kernel)
set_option maxRecDepth 20000 in
theorem gX2_depthAt_X2_hasPlace : GoodIn wsX2_depthAt (wsV RX2 110 RX2 yX2_hasPlace wsX2_hasPlace) := goodIn_app (goodIn_r _ [2, 3, 4, 5] rfl (by decide +kernel)) ggX2_depthAt_X2_hasPlace
def dt_cX2_depthAt_0 : List (Nat × Instr × Nat) := [(0, .iconst 0, 1), (1, .istore_n 2, 1), (2, .iconst 0, 1), (3, .istore_n 3, 1), (4, .iload_n 3, 1), (5, .aload_n 0, 1), (6, .getfield 50, 3), (9, .if_icmp .ge 21, 3), (12, .aload_n 0, 1), (13, .iload_n 3, 1), (14, .iload_n 1, 1), (15, .invokevirtual 110, 3), (18, .ifCond .eq 6, 3), (21, .iinc 2 1, 3), (24, .iinc 3 1, 3), (27, .goto (-23), 3), (30, .iload_n 2, 1), (31, .ireturn, 1)]
theorem da_cX2_depthAt_0 : dk_all cX2_depthAt dt_cX2_depthAt_0 = true := by decide +kernel
theorem dX2_depthAt_0 : decode cX2_depthAt 0 = .ok (.iconst 0, 1) := dk_get _ da_cX2_depthAt_0 0 _ _ _ rfl
theorem dX2_depthAt_1 : decode cX2_depthAt 1 = .ok (.istore_n 2, 1) := dk_get _ da_cX2_depthAt_0 1 _ _ _ rfl
theorem dX2_depthAt_2 : decode cX2_depthAt 2 = .ok (.iconst 0, 1) := dk_get _ da_cX2_depthAt_0 2 _ _ _ rfl
theorem dX2_depthAt_3 : decode cX2_depthAt 3 = .ok (.istore_n 3, 1) := dk_get _ da_cX2_depthAt_0 3 _ _ _ rfl
theorem dX2_depthAt_4 : decode cX2_depthAt 4 = .ok (.iload_n 3, 1) := dk_get _ da_cX2_depthAt_0 4 _ _ _ rfl
theorem dX2_depthAt_5 : decode cX2_depthAt 5 = .ok (.aload_n 0, 1) := dk_get _ da_cX2_depthAt_0 5 _ _ _ rfl
theorem dX2_depthAt_6 : decode cX2_depthAt 6 = .ok (.getfield 50, 3) := dk_get _ da_cX2_depthAt_0 6 _ _ _ rfl
theorem dX2_depthAt_9 : decode cX2_depthAt 9 = .ok (.if_icmp .ge 21, 3) := dk_get _ da_cX2_depthAt_0 7 _ _ _ rfl
theorem dX2_depthAt_12 : decode cX2_depthAt 12 = .ok (.aload_n 0, 1) := dk_get _ da_cX2_depthAt_0 8 _ _ _ rfl
theorem dX2_depthAt_13 : decode cX2_depthAt 13 = .ok (.iload_n 3, 1) := dk_get _ da_cX2_depthAt_0 9 _ _ _ rfl
theorem dX2_depthAt_14 : decode cX2_depthAt 14 = .ok (.iload_n 1, 1) := dk_get _ da_cX2_depthAt_0 10 _ _ _ rfl
theorem dX2_depthAt_15 : decode cX2_depthAt 15 = .ok (.invokevirtual 110, 3) := dk_get _ da_cX2_depthAt_0 11 _ _ _ rfl
theorem dX2_depthAt_18 : decode cX2_depthAt 18 = .ok (.ifCond .eq 6, 3) := dk_get _ da_cX2_depthAt_0 12 _ _ _ rfl
theorem dX2_depthAt_21 : decode cX2_depthAt 21 = .ok (.iinc 2 1, 3) := dk_get _ da_cX2_depthAt_0 13 _ _ _ rfl
theorem dX2_depthAt_24 : decode cX2_depthAt 24 = .ok (.iinc 3 1, 3) := dk_get _ da_cX2_depthAt_0 14 _ _ _ rfl
theorem dX2_depthAt_27 : decode cX2_depthAt 27 = .ok (.goto (-23), 3) := dk_get _ da_cX2_depthAt_0 15 _ _ _ rfl
theorem dX2_depthAt_30 : decode cX2_depthAt 30 = .ok (.iload_n 2, 1) := dk_get _ da_cX2_depthAt_0 16 _ _ _ rfl
theorem dX2_depthAt_31 : decode cX2_depthAt 31 = .ok (.ireturn, 1) := dk_get _ da_cX2_depthAt_0 17 _ _ _ rfl
set_option maxRecDepth 20000 in
theorem ggX2_onPath_X2_hasPlace : GoodIn wsX2_onPath wsX2_hasPlace := goodIn_r _ [6, 7, 8, 9, 10, 11, 12, 13, 14, 15, 16, 17, 18, 19] rfl (by decide +kernel)
set_option maxRecDepth 20000 in
theorem gX2_onPath_X2_hasPlace : GoodIn wsX2_onPath (wsV RX2 110 RX2 yX2_hasPlace wsX2_hasPlace) := goodIn_app (goodIn_r _ [2, 3, 4, 5] rfl (by decide +kernel)) ggX2_onPath_X2_hasPlace
def dt_cX2_onPath_0 : List (Nat × Instr × Nat) := [(0, .iconst 0, 1), (1, .istore_n 3, 1), (2, .iconst 0, 1), (3, .istore 4, 2), (5, .iload 4, 2), (7, .aload_n 0, 1), (8, .getfield 50, 3), (11, .if_icmp .ge 30, 3), (14, .aload_n 0, 1), (15, .iload 4, 2), (17, .iload_n 1, 1), (18, .invokevirtual 110, 3), (21, .ifCond .eq 14, 3), (24, .iload_n 3, 1), (25, .iload_n 2, 1), (26, .if_icmp .ne 6, 3), (29, .iload 4, 2), (31, .ireturn, 1), (32, .iinc 3 1, 3), (35, .iinc 4 1, 3), (38, .goto (-33), 3), (41, .iconst (-1), 1), (42, .ireturn, 1)]
theorem da_cX2_onPath_0 : dk_all cX2_onPath dt_cX2_onPath_0 = true := by decide +kernel
theorem dX2_onPath_0 : decode cX2_onPath 0 = .ok (.iconst 0, 1) := dk_get _ da_cX2_onPath_0 0 _ _ _ rfl
theorem dX2_onPath_1 : decode cX2_onPath 1 = .ok (.istore_n 3, 1) := dk_get _ da_cX2_onPath_0 1 _ _ _ rfl
theorem dX2_onPath_2 : decode cX2_onPath 2 = .ok (.iconst 0, 1) := dk_get _ da_cX2_onPath_0 2 _ _ _ rfl
theorem dX2_onPath_3 : decode cX2_onPath 3 = .ok (.istore 4, 2) := dk_get _ da_cX2_onPath_0 3 _ _ _ rfl
theorem dX2_onPath_5 : decode cX2_onPath 5 = .ok (.iload 4, 2) := dk_get _ da_cX2_onPath_0 4 _ _ _ rfl
theorem dX2_onPath_7 : decode cX2_onPath 7 = .ok (.aload_n 0, 1) := dk_get _ da_cX2_onPath_0 5 _ _ _ rfl
theorem dX2_onPath_8 : decode cX2_onPath 8 = .ok (.getfield 50, 3) := dk_get _ da_cX2_onPath_0 6 _ _ _ rfl
theorem dX2_onPath_11 : decode cX2_onPath 11 = .ok (.if_icmp .ge 30, 3) := dk_get _ da_cX2_onPath_0 7 _ _ _ rfl
theorem dX2_onPath_14 : decode cX2_onPath 14 = .ok (.aload_n 0, 1) := dk_get _ da_cX2_onPath_0 8 _ _ _ rfl
theorem dX2_onPath_15 : decode cX2_onPath 15 = .ok (.iload 4, 2) := dk_get _ da_cX2_onPath_0 9 _ _ _ rfl
theorem dX2_onPath_17 : decode cX2_onPath 17 = .ok (.iload_n 1, 1) := dk_get _ da_cX2_onPath_0 10 _ _ _ rfl
theorem dX2_onPath_18 : decode cX2_onPath 18 = .ok (.invokevirtual 110, 3) := dk_get _ da_cX2_onPath_0 11 _ _ _ rfl
theorem dX2_onPath_21 : decode cX2_onPath 21 = .ok (.ifCond .eq 14, 3) := dk_get _ da_cX2_onPath_0 12 _ _ _ rfl
theorem dX2_onPath_24 : decode cX2_onPath 24 = .ok (.iload_n 3, 1) := dk_get _ da_cX2_onPath_0 13 _ _ _ rfl
theorem dX2_onPath_25 : decode cX2_onPath 25 = .ok (.iload_n 2, 1) := dk_get _ da_cX2_onPath_0 14 _ _ _ rfl
theorem dX2_onPath_26 : decode cX2_onPath 26 = .ok (.if_icmp .ne 6, 3) := dk_get _ da_cX2_onPath_0 15 _ _ _ rfl
theorem dX2_onPath_29 : decode cX2_onPath 29 = .ok (.iload 4, 2) := dk_get _ da_cX2_onPath_0 16 _ _ _ rfl
theorem dX2_onPath_31 : decode cX2_onPath 31 = .ok (.ireturn, 1) := dk_get _ da_cX2_onPath_0 17 _ _ _ rfl
theorem dX2_onPath_32 : decode cX2_onPath 32 = .ok (.iinc 3 1, 3) := dk_get _ da_cX2_onPath_0 18 _ _ _ rfl
theorem dX2_onPath_35 : decode cX2_onPath 35 = .ok (.iinc 4 1, 3) := dk_get _ da_cX2_onPath_0 19 _ _ _ rfl
theorem dX2_onPath_38 : decode cX2_onPath 38 = .ok (.goto (-33), 3) := dk_get _ da_cX2_onPath_0 20 _ _ _ rfl
theorem dX2_onPath_41 : decode cX2_onPath 41 = .ok (.iconst (-1), 1) := dk_get _ da_cX2_onPath_0 21 _ _ _ rfl
theorem dX2_onPath_42 : decode cX2_onPath 42 = .ok (.ireturn, 1) := dk_get _ da_cX2_onPath_0 22 _ _ _ rfl
def dt_cX2_numberIn_0 : List (Nat × Instr × Nat) := [(0, .iload_n 1, 1), (1, .bipush 6, 2), (3, .imul, 1), (4, .istore_n 3, 1), (5, .iconst 0, 1), (6, .istore 4, 2), (8, .iload 4, 2), (10, .aload_n 0, 1), (11, .getfield 25, 3), (14, .iload_n 1, 1), (15, .iaload, 1), (16, .if_icmp .ge 32, 3), (19, .aload_n 0, 1), (20, .getfield 34, 3), (23, .iload_n 3, 1), (24, .iload 4, 2), (26, .iadd, 1), (27, .iaload, 1), (28, .iload_n 2, 1), (29, .if_icmp .ne 13, 3), (32, .aload_n 0, 1), (33, .getfield 37, 3), (36, .iload_n 3, 1), (37, .iload 4, 2), (39, .iadd, 1), (40, .iaload, 1), (41, .ireturn, 1), (42, .iinc 4 1, 3), (45, .goto (-37), 3), (48, .iconst 0, 1), (49, .ireturn, 1)]
theorem da_cX2_numberIn_0 : dk_all cX2_numberIn dt_cX2_numberIn_0 = true := by decide +kernel
theorem dX2_numberIn_0 : decode cX2_numberIn 0 = .ok (.iload_n 1, 1) := dk_get _ da_cX2_numberIn_0 0 _ _ _ rfl
theorem dX2_numberIn_1 : decode cX2_numberIn 1 = .ok (.bipush 6, 2) := dk_get _ da_cX2_numberIn_0 1 _ _ _ rfl
theorem dX2_numberIn_3 : decode cX2_numberIn 3 = .ok (.imul, 1) := dk_get _ da_cX2_numberIn_0 2 _ _ _ rfl
theorem dX2_numberIn_4 : decode cX2_numberIn 4 = .ok (.istore_n 3, 1) := dk_get _ da_cX2_numberIn_0 3 _ _ _ rfl
theorem dX2_numberIn_5 : decode cX2_numberIn 5 = .ok (.iconst 0, 1) := dk_get _ da_cX2_numberIn_0 4 _ _ _ rfl
theorem dX2_numberIn_6 : decode cX2_numberIn 6 = .ok (.istore 4, 2) := dk_get _ da_cX2_numberIn_0 5 _ _ _ rfl
theorem dX2_numberIn_8 : decode cX2_numberIn 8 = .ok (.iload 4, 2) := dk_get _ da_cX2_numberIn_0 6 _ _ _ rfl
theorem dX2_numberIn_10 : decode cX2_numberIn 10 = .ok (.aload_n 0, 1) := dk_get _ da_cX2_numberIn_0 7 _ _ _ rfl
theorem dX2_numberIn_11 : decode cX2_numberIn 11 = .ok (.getfield 25, 3) := dk_get _ da_cX2_numberIn_0 8 _ _ _ rfl
theorem dX2_numberIn_14 : decode cX2_numberIn 14 = .ok (.iload_n 1, 1) := dk_get _ da_cX2_numberIn_0 9 _ _ _ rfl
theorem dX2_numberIn_15 : decode cX2_numberIn 15 = .ok (.iaload, 1) := dk_get _ da_cX2_numberIn_0 10 _ _ _ rfl
theorem dX2_numberIn_16 : decode cX2_numberIn 16 = .ok (.if_icmp .ge 32, 3) := dk_get _ da_cX2_numberIn_0 11 _ _ _ rfl
theorem dX2_numberIn_19 : decode cX2_numberIn 19 = .ok (.aload_n 0, 1) := dk_get _ da_cX2_numberIn_0 12 _ _ _ rfl
theorem dX2_numberIn_20 : decode cX2_numberIn 20 = .ok (.getfield 34, 3) := dk_get _ da_cX2_numberIn_0 13 _ _ _ rfl
theorem dX2_numberIn_23 : decode cX2_numberIn 23 = .ok (.iload_n 3, 1) := dk_get _ da_cX2_numberIn_0 14 _ _ _ rfl
theorem dX2_numberIn_24 : decode cX2_numberIn 24 = .ok (.iload 4, 2) := dk_get _ da_cX2_numberIn_0 15 _ _ _ rfl
theorem dX2_numberIn_26 : decode cX2_numberIn 26 = .ok (.iadd, 1) := dk_get _ da_cX2_numberIn_0 16 _ _ _ rfl
theorem dX2_numberIn_27 : decode cX2_numberIn 27 = .ok (.iaload, 1) := dk_get _ da_cX2_numberIn_0 17 _ _ _ rfl
theorem dX2_numberIn_28 : decode cX2_numberIn 28 = .ok (.iload_n 2, 1) := dk_get _ da_cX2_numberIn_0 18 _ _ _ rfl
theorem dX2_numberIn_29 : decode cX2_numberIn 29 = .ok (.if_icmp .ne 13, 3) := dk_get _ da_cX2_numberIn_0 19 _ _ _ rfl
theorem dX2_numberIn_32 : decode cX2_numberIn 32 = .ok (.aload_n 0, 1) := dk_get _ da_cX2_numberIn_0 20 _ _ _ rfl
theorem dX2_numberIn_33 : decode cX2_numberIn 33 = .ok (.getfield 37, 3) := dk_get _ da_cX2_numberIn_0 21 _ _ _ rfl
theorem dX2_numberIn_36 : decode cX2_numberIn 36 = .ok (.iload_n 3, 1) := dk_get _ da_cX2_numberIn_0 22 _ _ _ rfl
theorem dX2_numberIn_37 : decode cX2_numberIn 37 = .ok (.iload 4, 2) := dk_get _ da_cX2_numberIn_0 23 _ _ _ rfl
theorem dX2_numberIn_39 : decode cX2_numberIn 39 = .ok (.iadd, 1) := dk_get _ da_cX2_numberIn_0 24 _ _ _ rfl
theorem dX2_numberIn_40 : decode cX2_numberIn 40 = .ok (.iaload, 1) := dk_get _ da_cX2_numberIn_0 25 _ _ _ rfl
theorem dX2_numberIn_41 : decode cX2_numberIn 41 = .ok (.ireturn, 1) := dk_get _ da_cX2_numberIn_0 26 _ _ _ rfl
theorem dX2_numberIn_42 : decode cX2_numberIn 42 = .ok (.iinc 4 1, 3) := dk_get _ da_cX2_numberIn_0 27 _ _ _ rfl
theorem dX2_numberIn_45 : decode cX2_numberIn 45 = .ok (.goto (-37), 3) := dk_get _ da_cX2_numberIn_0 28 _ _ _ rfl
theorem dX2_numberIn_48 : decode cX2_numberIn 48 = .ok (.iconst 0, 1) := dk_get _ da_cX2_numberIn_0 29 _ _ _ rfl
theorem dX2_numberIn_49 : decode cX2_numberIn 49 = .ok (.ireturn, 1) := dk_get _ da_cX2_numberIn_0 30 _ _ _ rfl
set_option maxRecDepth 20000 in
theorem ggX2_holding_X2_hasPlace : GoodIn wsX2_holding wsX2_hasPlace := goodIn_r _ [8, 9, 10, 18, 19, 20, 21, 22, 23, 24, 25, 26, 27, 28] rfl (by decide +kernel)
set_option maxRecDepth 20000 in
theorem gX2_holding_X2_hasPlace : GoodIn wsX2_holding (wsV RX2 110 RX2 yX2_hasPlace wsX2_hasPlace) := goodIn_app (goodIn_r _ [4, 5, 6, 7] rfl (by decide +kernel)) ggX2_holding_X2_hasPlace
set_option maxRecDepth 20000 in
theorem ggX2_holding_X2_numberIn : GoodIn wsX2_holding wsX2_numberIn := goodIn_r _ [14, 15, 16, 17, 18, 19, 20, 21, 22, 23, 24, 25, 26, 27, 28] rfl (by decide +kernel)
set_option maxRecDepth 20000 in
theorem gX2_holding_X2_numberIn : GoodIn wsX2_holding (wsV RX2 114 RX2 yX2_numberIn wsX2_numberIn) := goodIn_app (goodIn_r _ [11, 12, 13, 7] rfl (by decide +kernel)) ggX2_holding_X2_numberIn
def dt_cX2_holding_0 : List (Nat × Instr × Nat) := [(0, .iconst 0, 1), (1, .istore_n 2, 1), (2, .aload_n 0, 1), (3, .getfield 50, 3), (6, .iconst 1, 1), (7, .isub, 1), (8, .istore_n 3, 1), (9, .iload_n 3, 1), (10, .ifCond .lt 40, 3), (13, .aload_n 0, 1), (14, .iload_n 3, 1), (15, .iload_n 1, 1), (16, .invokevirtual 110, 3), (19, .ifCond .eq 25, 3), (22, .aload_n 0, 1), (23, .iload_n 3, 1), (24, .aload_n 0, 1), (25, .getfield 40, 3), (28, .getfield 74, 3), (31, .iload_n 1, 1), (32, .iaload, 1), (33, .invokevirtual 114, 3), (36, .ifCond .ne 5, 3), (39, .iload_n 2, 1), (40, .ireturn, 1), (41, .iinc 2 1, 3), (44, .iinc 3 (-1), 3), (47, .goto (-38), 3), (50, .iload_n 2, 1), (51, .ireturn, 1)]
theorem da_cX2_holding_0 : dk_all cX2_holding dt_cX2_holding_0 = true := by decide +kernel
theorem dX2_holding_0 : decode cX2_holding 0 = .ok (.iconst 0, 1) := dk_get _ da_cX2_holding_0 0 _ _ _ rfl
theorem dX2_holding_1 : decode cX2_holding 1 = .ok (.istore_n 2, 1) := dk_get _ da_cX2_holding_0 1 _ _ _ rfl
theorem dX2_holding_2 : decode cX2_holding 2 = .ok (.aload_n 0, 1) := dk_get _ da_cX2_holding_0 2 _ _ _ rfl
theorem dX2_holding_3 : decode cX2_holding 3 = .ok (.getfield 50, 3) := dk_get _ da_cX2_holding_0 3 _ _ _ rfl
theorem dX2_holding_6 : decode cX2_holding 6 = .ok (.iconst 1, 1) := dk_get _ da_cX2_holding_0 4 _ _ _ rfl
theorem dX2_holding_7 : decode cX2_holding 7 = .ok (.isub, 1) := dk_get _ da_cX2_holding_0 5 _ _ _ rfl
theorem dX2_holding_8 : decode cX2_holding 8 = .ok (.istore_n 3, 1) := dk_get _ da_cX2_holding_0 6 _ _ _ rfl
theorem dX2_holding_9 : decode cX2_holding 9 = .ok (.iload_n 3, 1) := dk_get _ da_cX2_holding_0 7 _ _ _ rfl
theorem dX2_holding_10 : decode cX2_holding 10 = .ok (.ifCond .lt 40, 3) := dk_get _ da_cX2_holding_0 8 _ _ _ rfl
theorem dX2_holding_13 : decode cX2_holding 13 = .ok (.aload_n 0, 1) := dk_get _ da_cX2_holding_0 9 _ _ _ rfl
theorem dX2_holding_14 : decode cX2_holding 14 = .ok (.iload_n 3, 1) := dk_get _ da_cX2_holding_0 10 _ _ _ rfl
theorem dX2_holding_15 : decode cX2_holding 15 = .ok (.iload_n 1, 1) := dk_get _ da_cX2_holding_0 11 _ _ _ rfl
theorem dX2_holding_16 : decode cX2_holding 16 = .ok (.invokevirtual 110, 3) := dk_get _ da_cX2_holding_0 12 _ _ _ rfl
theorem dX2_holding_19 : decode cX2_holding 19 = .ok (.ifCond .eq 25, 3) := dk_get _ da_cX2_holding_0 13 _ _ _ rfl
theorem dX2_holding_22 : decode cX2_holding 22 = .ok (.aload_n 0, 1) := dk_get _ da_cX2_holding_0 14 _ _ _ rfl
theorem dX2_holding_23 : decode cX2_holding 23 = .ok (.iload_n 3, 1) := dk_get _ da_cX2_holding_0 15 _ _ _ rfl
theorem dX2_holding_24 : decode cX2_holding 24 = .ok (.aload_n 0, 1) := dk_get _ da_cX2_holding_0 16 _ _ _ rfl
theorem dX2_holding_25 : decode cX2_holding 25 = .ok (.getfield 40, 3) := dk_get _ da_cX2_holding_0 17 _ _ _ rfl
theorem dX2_holding_28 : decode cX2_holding 28 = .ok (.getfield 74, 3) := dk_get _ da_cX2_holding_0 18 _ _ _ rfl
theorem dX2_holding_31 : decode cX2_holding 31 = .ok (.iload_n 1, 1) := dk_get _ da_cX2_holding_0 19 _ _ _ rfl
theorem dX2_holding_32 : decode cX2_holding 32 = .ok (.iaload, 1) := dk_get _ da_cX2_holding_0 20 _ _ _ rfl
theorem dX2_holding_33 : decode cX2_holding 33 = .ok (.invokevirtual 114, 3) := dk_get _ da_cX2_holding_0 21 _ _ _ rfl
theorem dX2_holding_36 : decode cX2_holding 36 = .ok (.ifCond .ne 5, 3) := dk_get _ da_cX2_holding_0 22 _ _ _ rfl
theorem dX2_holding_39 : decode cX2_holding 39 = .ok (.iload_n 2, 1) := dk_get _ da_cX2_holding_0 23 _ _ _ rfl
theorem dX2_holding_40 : decode cX2_holding 40 = .ok (.ireturn, 1) := dk_get _ da_cX2_holding_0 24 _ _ _ rfl
theorem dX2_holding_41 : decode cX2_holding 41 = .ok (.iinc 2 1, 3) := dk_get _ da_cX2_holding_0 25 _ _ _ rfl
theorem dX2_holding_44 : decode cX2_holding 44 = .ok (.iinc 3 (-1), 3) := dk_get _ da_cX2_holding_0 26 _ _ _ rfl
theorem dX2_holding_47 : decode cX2_holding 47 = .ok (.goto (-38), 3) := dk_get _ da_cX2_holding_0 27 _ _ _ rfl
theorem dX2_holding_50 : decode cX2_holding 50 = .ok (.iload_n 2, 1) := dk_get _ da_cX2_holding_0 28 _ _ _ rfl
theorem dX2_holding_51 : decode cX2_holding 51 = .ok (.ireturn, 1) := dk_get _ da_cX2_holding_0 29 _ _ _ rfl
set_option maxRecDepth 20000 in
theorem ggX2_nodesWithMajority_X0_leader : GoodIn wsX2_nodesWithMajority wsX0_leader := goodIn_r _ [10, 11, 12, 13, 14, 15, 9, 16, 17, 18, 19, 31, 32] rfl (by decide +kernel)
set_option maxRecDepth 20000 in
theorem gX2_nodesWithMajority_X0_leader : GoodIn wsX2_nodesWithMajority (wsV RX2 117 RX0 yX0_leader wsX0_leader) := goodIn_app (goodIn_r _ [6, 7, 8, 9] rfl (by decide +kernel)) ggX2_nodesWithMajority_X0_leader
def dt_cX2_nodesWithMajority_0 : List (Nat × Instr × Nat) := [(0, .iconst 0, 1), (1, .istore_n 1, 1), (2, .iconst 0, 1), (3, .istore_n 2, 1), (4, .iload_n 2, 1), (5, .aload_n 0, 1), (6, .getfield 50, 3), (9, .if_icmp .ge 36, 3), (12, .aload_n 0, 1), (13, .getfield 40, 3), (16, .aload_n 0, 1), (17, .getfield 18, 3), (20, .iload_n 2, 1), (21, .iaload, 1), (22, .aload_n 0, 1), (23, .getfield 22, 3), (26, .iload_n 2, 1), (27, .iaload, 1), (28, .invokevirtual 117, 3), (31, .ldc 120, 2), (33, .if_icmp .eq 6, 3), (36, .iinc 1 1, 3), (39, .iinc 2 1, 3), (42, .goto (-38), 3), (45, .iload_n 1, 1), (46, .ireturn, 1)]
theorem da_cX2_nodesWithMajority_0 : dk_all cX2_nodesWithMajority dt_cX2_nodesWithMajority_0 = true := by decide +kernel
theorem dX2_nodesWithMajority_0 : decode cX2_nodesWithMajority 0 = .ok (.iconst 0, 1) := dk_get _ da_cX2_nodesWithMajority_0 0 _ _ _ rfl
theorem dX2_nodesWithMajority_1 : decode cX2_nodesWithMajority 1 = .ok (.istore_n 1, 1) := dk_get _ da_cX2_nodesWithMajority_0 1 _ _ _ rfl
theorem dX2_nodesWithMajority_2 : decode cX2_nodesWithMajority 2 = .ok (.iconst 0, 1) := dk_get _ da_cX2_nodesWithMajority_0 2 _ _ _ rfl
theorem dX2_nodesWithMajority_3 : decode cX2_nodesWithMajority 3 = .ok (.istore_n 2, 1) := dk_get _ da_cX2_nodesWithMajority_0 3 _ _ _ rfl
theorem dX2_nodesWithMajority_4 : decode cX2_nodesWithMajority 4 = .ok (.iload_n 2, 1) := dk_get _ da_cX2_nodesWithMajority_0 4 _ _ _ rfl
theorem dX2_nodesWithMajority_5 : decode cX2_nodesWithMajority 5 = .ok (.aload_n 0, 1) := dk_get _ da_cX2_nodesWithMajority_0 5 _ _ _ rfl
theorem dX2_nodesWithMajority_6 : decode cX2_nodesWithMajority 6 = .ok (.getfield 50, 3) := dk_get _ da_cX2_nodesWithMajority_0 6 _ _ _ rfl
theorem dX2_nodesWithMajority_9 : decode cX2_nodesWithMajority 9 = .ok (.if_icmp .ge 36, 3) := dk_get _ da_cX2_nodesWithMajority_0 7 _ _ _ rfl
theorem dX2_nodesWithMajority_12 : decode cX2_nodesWithMajority 12 = .ok (.aload_n 0, 1) := dk_get _ da_cX2_nodesWithMajority_0 8 _ _ _ rfl
theorem dX2_nodesWithMajority_13 : decode cX2_nodesWithMajority 13 = .ok (.getfield 40, 3) := dk_get _ da_cX2_nodesWithMajority_0 9 _ _ _ rfl
theorem dX2_nodesWithMajority_16 : decode cX2_nodesWithMajority 16 = .ok (.aload_n 0, 1) := dk_get _ da_cX2_nodesWithMajority_0 10 _ _ _ rfl
theorem dX2_nodesWithMajority_17 : decode cX2_nodesWithMajority 17 = .ok (.getfield 18, 3) := dk_get _ da_cX2_nodesWithMajority_0 11 _ _ _ rfl
theorem dX2_nodesWithMajority_20 : decode cX2_nodesWithMajority 20 = .ok (.iload_n 2, 1) := dk_get _ da_cX2_nodesWithMajority_0 12 _ _ _ rfl
theorem dX2_nodesWithMajority_21 : decode cX2_nodesWithMajority 21 = .ok (.iaload, 1) := dk_get _ da_cX2_nodesWithMajority_0 13 _ _ _ rfl
theorem dX2_nodesWithMajority_22 : decode cX2_nodesWithMajority 22 = .ok (.aload_n 0, 1) := dk_get _ da_cX2_nodesWithMajority_0 14 _ _ _ rfl
theorem dX2_nodesWithMajority_23 : decode cX2_nodesWithMajority 23 = .ok (.getfield 22, 3) := dk_get _ da_cX2_nodesWithMajority_0 15 _ _ _ rfl
theorem dX2_nodesWithMajority_26 : decode cX2_nodesWithMajority 26 = .ok (.iload_n 2, 1) := dk_get _ da_cX2_nodesWithMajority_0 16 _ _ _ rfl
theorem dX2_nodesWithMajority_27 : decode cX2_nodesWithMajority 27 = .ok (.iaload, 1) := dk_get _ da_cX2_nodesWithMajority_0 17 _ _ _ rfl
theorem dX2_nodesWithMajority_28 : decode cX2_nodesWithMajority 28 = .ok (.invokevirtual 117, 3) := dk_get _ da_cX2_nodesWithMajority_0 18 _ _ _ rfl
theorem dX2_nodesWithMajority_31 : decode cX2_nodesWithMajority 31 = .ok (.ldc 120, 2) := dk_get _ da_cX2_nodesWithMajority_0 19 _ _ _ rfl
theorem dX2_nodesWithMajority_33 : decode cX2_nodesWithMajority 33 = .ok (.if_icmp .eq 6, 3) := dk_get _ da_cX2_nodesWithMajority_0 20 _ _ _ rfl
theorem dX2_nodesWithMajority_36 : decode cX2_nodesWithMajority 36 = .ok (.iinc 1 1, 3) := dk_get _ da_cX2_nodesWithMajority_0 21 _ _ _ rfl
theorem dX2_nodesWithMajority_39 : decode cX2_nodesWithMajority 39 = .ok (.iinc 2 1, 3) := dk_get _ da_cX2_nodesWithMajority_0 22 _ _ _ rfl
theorem dX2_nodesWithMajority_42 : decode cX2_nodesWithMajority 42 = .ok (.goto (-38), 3) := dk_get _ da_cX2_nodesWithMajority_0 23 _ _ _ rfl
theorem dX2_nodesWithMajority_45 : decode cX2_nodesWithMajority 45 = .ok (.iload_n 1, 1) := dk_get _ da_cX2_nodesWithMajority_0 24 _ _ _ rfl
theorem dX2_nodesWithMajority_46 : decode cX2_nodesWithMajority 46 = .ok (.ireturn, 1) := dk_get _ da_cX2_nodesWithMajority_0 25 _ _ _ rfl
def dt_cX2_deepest_0 : List (Nat × Instr × Nat) := [(0, .aload_n 0, 1), (1, .getfield 50, 3), (4, .ifCond .ne 7, 3), (7, .iconst 0, 1), (8, .goto 4, 3), (11, .iconst 1, 1), (12, .istore_n 1, 1), (13, .aload_n 0, 1), (14, .getfield 40, 3), (17, .getfield 44, 3), (20, .istore_n 2, 1), (21, .iload_n 2, 1), (22, .iconst 1, 1), (23, .if_icmp .le 15, 3), (26, .iinc 1 1, 3), (29, .iload_n 2, 1), (30, .iload_n 2, 1), (31, .iconst 2, 1), (32, .idiv, 1), (33, .isub, 1), (34, .istore_n 2, 1), (35, .goto (-14), 3), (38, .iload_n 1, 1), (39, .ireturn, 1)]
theorem da_cX2_deepest_0 : dk_all cX2_deepest dt_cX2_deepest_0 = true := by decide +kernel
theorem dX2_deepest_0 : decode cX2_deepest 0 = .ok (.aload_n 0, 1) := dk_get _ da_cX2_deepest_0 0 _ _ _ rfl
theorem dX2_deepest_1 : decode cX2_deepest 1 = .ok (.getfield 50, 3) := dk_get _ da_cX2_deepest_0 1 _ _ _ rfl
theorem dX2_deepest_4 : decode cX2_deepest 4 = .ok (.ifCond .ne 7, 3) := dk_get _ da_cX2_deepest_0 2 _ _ _ rfl
theorem dX2_deepest_7 : decode cX2_deepest 7 = .ok (.iconst 0, 1) := dk_get _ da_cX2_deepest_0 3 _ _ _ rfl
theorem dX2_deepest_8 : decode cX2_deepest 8 = .ok (.goto 4, 3) := dk_get _ da_cX2_deepest_0 4 _ _ _ rfl
theorem dX2_deepest_11 : decode cX2_deepest 11 = .ok (.iconst 1, 1) := dk_get _ da_cX2_deepest_0 5 _ _ _ rfl
theorem dX2_deepest_12 : decode cX2_deepest 12 = .ok (.istore_n 1, 1) := dk_get _ da_cX2_deepest_0 6 _ _ _ rfl
theorem dX2_deepest_13 : decode cX2_deepest 13 = .ok (.aload_n 0, 1) := dk_get _ da_cX2_deepest_0 7 _ _ _ rfl
theorem dX2_deepest_14 : decode cX2_deepest 14 = .ok (.getfield 40, 3) := dk_get _ da_cX2_deepest_0 8 _ _ _ rfl
theorem dX2_deepest_17 : decode cX2_deepest 17 = .ok (.getfield 44, 3) := dk_get _ da_cX2_deepest_0 9 _ _ _ rfl
theorem dX2_deepest_20 : decode cX2_deepest 20 = .ok (.istore_n 2, 1) := dk_get _ da_cX2_deepest_0 10 _ _ _ rfl
theorem dX2_deepest_21 : decode cX2_deepest 21 = .ok (.iload_n 2, 1) := dk_get _ da_cX2_deepest_0 11 _ _ _ rfl
theorem dX2_deepest_22 : decode cX2_deepest 22 = .ok (.iconst 1, 1) := dk_get _ da_cX2_deepest_0 12 _ _ _ rfl
theorem dX2_deepest_23 : decode cX2_deepest 23 = .ok (.if_icmp .le 15, 3) := dk_get _ da_cX2_deepest_0 13 _ _ _ rfl
theorem dX2_deepest_26 : decode cX2_deepest 26 = .ok (.iinc 1 1, 3) := dk_get _ da_cX2_deepest_0 14 _ _ _ rfl
theorem dX2_deepest_29 : decode cX2_deepest 29 = .ok (.iload_n 2, 1) := dk_get _ da_cX2_deepest_0 15 _ _ _ rfl
theorem dX2_deepest_30 : decode cX2_deepest 30 = .ok (.iload_n 2, 1) := dk_get _ da_cX2_deepest_0 16 _ _ _ rfl
theorem dX2_deepest_31 : decode cX2_deepest 31 = .ok (.iconst 2, 1) := dk_get _ da_cX2_deepest_0 17 _ _ _ rfl
theorem dX2_deepest_32 : decode cX2_deepest 32 = .ok (.idiv, 1) := dk_get _ da_cX2_deepest_0 18 _ _ _ rfl
theorem dX2_deepest_33 : decode cX2_deepest 33 = .ok (.isub, 1) := dk_get _ da_cX2_deepest_0 19 _ _ _ rfl
theorem dX2_deepest_34 : decode cX2_deepest 34 = .ok (.istore_n 2, 1) := dk_get _ da_cX2_deepest_0 20 _ _ _ rfl
theorem dX2_deepest_35 : decode cX2_deepest 35 = .ok (.goto (-14), 3) := dk_get _ da_cX2_deepest_0 21 _ _ _ rfl
theorem dX2_deepest_38 : decode cX2_deepest 38 = .ok (.iload_n 1, 1) := dk_get _ da_cX2_deepest_0 22 _ _ _ rfl
theorem dX2_deepest_39 : decode cX2_deepest 39 = .ok (.ireturn, 1) := dk_get _ da_cX2_deepest_0 23 _ _ _ rfl
def dt_cX2_allLosses_0 : List (Nat × Instr × Nat) := [(0, .iconst 0, 1), (1, .istore_n 1, 1), (2, .iconst 0, 1), (3, .istore_n 2, 1), (4, .iload_n 2, 1), (5, .aload_n 0, 1), (6, .getfield 50, 3), (9, .if_icmp .ge 18, 3), (12, .iload_n 1, 1), (13, .aload_n 0, 1), (14, .getfield 28, 3), (17, .iload_n 2, 1), (18, .iaload, 1), (19, .iadd, 1), (20, .istore_n 1, 1), (21, .iinc 2 1, 3), (24, .goto (-20), 3), (27, .iload_n 1, 1), (28, .ireturn, 1)]
theorem da_cX2_allLosses_0 : dk_all cX2_allLosses dt_cX2_allLosses_0 = true := by decide +kernel
theorem dX2_allLosses_0 : decode cX2_allLosses 0 = .ok (.iconst 0, 1) := dk_get _ da_cX2_allLosses_0 0 _ _ _ rfl
theorem dX2_allLosses_1 : decode cX2_allLosses 1 = .ok (.istore_n 1, 1) := dk_get _ da_cX2_allLosses_0 1 _ _ _ rfl
theorem dX2_allLosses_2 : decode cX2_allLosses 2 = .ok (.iconst 0, 1) := dk_get _ da_cX2_allLosses_0 2 _ _ _ rfl
theorem dX2_allLosses_3 : decode cX2_allLosses 3 = .ok (.istore_n 2, 1) := dk_get _ da_cX2_allLosses_0 3 _ _ _ rfl
theorem dX2_allLosses_4 : decode cX2_allLosses 4 = .ok (.iload_n 2, 1) := dk_get _ da_cX2_allLosses_0 4 _ _ _ rfl
theorem dX2_allLosses_5 : decode cX2_allLosses 5 = .ok (.aload_n 0, 1) := dk_get _ da_cX2_allLosses_0 5 _ _ _ rfl
theorem dX2_allLosses_6 : decode cX2_allLosses 6 = .ok (.getfield 50, 3) := dk_get _ da_cX2_allLosses_0 6 _ _ _ rfl
theorem dX2_allLosses_9 : decode cX2_allLosses 9 = .ok (.if_icmp .ge 18, 3) := dk_get _ da_cX2_allLosses_0 7 _ _ _ rfl
theorem dX2_allLosses_12 : decode cX2_allLosses 12 = .ok (.iload_n 1, 1) := dk_get _ da_cX2_allLosses_0 8 _ _ _ rfl
theorem dX2_allLosses_13 : decode cX2_allLosses 13 = .ok (.aload_n 0, 1) := dk_get _ da_cX2_allLosses_0 9 _ _ _ rfl
theorem dX2_allLosses_14 : decode cX2_allLosses 14 = .ok (.getfield 28, 3) := dk_get _ da_cX2_allLosses_0 10 _ _ _ rfl
theorem dX2_allLosses_17 : decode cX2_allLosses 17 = .ok (.iload_n 2, 1) := dk_get _ da_cX2_allLosses_0 11 _ _ _ rfl
theorem dX2_allLosses_18 : decode cX2_allLosses 18 = .ok (.iaload, 1) := dk_get _ da_cX2_allLosses_0 12 _ _ _ rfl
theorem dX2_allLosses_19 : decode cX2_allLosses 19 = .ok (.iadd, 1) := dk_get _ da_cX2_allLosses_0 13 _ _ _ rfl
theorem dX2_allLosses_20 : decode cX2_allLosses 20 = .ok (.istore_n 1, 1) := dk_get _ da_cX2_allLosses_0 14 _ _ _ rfl
theorem dX2_allLosses_21 : decode cX2_allLosses 21 = .ok (.iinc 2 1, 3) := dk_get _ da_cX2_allLosses_0 15 _ _ _ rfl
theorem dX2_allLosses_24 : decode cX2_allLosses 24 = .ok (.goto (-20), 3) := dk_get _ da_cX2_allLosses_0 16 _ _ _ rfl
theorem dX2_allLosses_27 : decode cX2_allLosses 27 = .ok (.iload_n 1, 1) := dk_get _ da_cX2_allLosses_0 17 _ _ _ rfl
theorem dX2_allLosses_28 : decode cX2_allLosses 28 = .ok (.ireturn, 1) := dk_get _ da_cX2_allLosses_0 18 _ _ _ rfl

