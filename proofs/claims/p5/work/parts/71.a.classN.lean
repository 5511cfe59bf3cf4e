abbrev wsX40 : List Cond := u_ws RX4 TX4 9
theorem nmX4 : ∀ a, a < 9 → ∀ b, b < 9 → a ≠ b → (TX4 a).2.1 ≠ (TX4 b).2.1 := by decide +kernel
theorem tyX4_ok : ∀ k, k < 9 → parseFieldDescriptor (TX4 k).2.2.1 = some (tyX4 k) := by decide +kernel
abbrev cX4_feed : ByteArray := prog_1_method_2_code
def yX4_feed : MethodName := ⟨RX4, "feed", "(II)I"⟩
abbrev cX4_end : ByteArray := prog_1_method_3_code
def yX4_end : MethodName := ⟨RX4, "end", "(I)I"⟩
abbrev cX4_slots : ByteArray := prog_1_method_4_code
def yX4_slots : MethodName := ⟨RX4, "slots", "(I)I"⟩
abbrev cX4_insert : ByteArray := prog_1_method_9_code
def yX4_insert : MethodName := ⟨RX4, "insert", "(II)I"⟩
abbrev cX4_remove : ByteArray := prog_1_method_10_code
def yX4_remove : MethodName := ⟨RX4, "remove", "(I)I"⟩
abbrev cX4_isValue : ByteArray := prog_1_method_46_code
def yX4_isValue : MethodName := ⟨RX4, "isValue", "(I)Z"⟩
abbrev cX4_isShare : ByteArray := prog_1_method_47_code
def yX4_isShare : MethodName := ⟨RX4, "isShare", "(II)Z"⟩
abbrev cX4_laidTree : ByteArray := prog_1_method_51_code
def yX4_laidTree : MethodName := ⟨RX4, "laidTree", "()LMajorityIndex$Tree;"⟩
def wsX4_feed : List Cond := .code yX4_feed cX4_feed 3 (some .int) :: ([.fieldLink RX4 12 "MajorityIndex" "row" "LMajorityIndex$Row;", .fieldLink RX4 57 "MajorityIndex$Row" "length" "I", .fieldLink RX4 53 "MajorityIndex" "treeIsOld" "Z", .methodLink RX4 60 yX0_append, .instanceMethod yX0_append, .selects RX0 yX0_append yX0_append, .initialized RX0, .code yX0_append cX0_append 2 none, .fieldLink RX0 15 "MajorityIndex$Row" "length" "I", .fieldLink RX0 9 "MajorityIndex$Row" "cell" "[I"] ++ wsX40 ++ wsX00)
def wsX4_end : List Cond := .code yX4_end cX4_end 2 (some .int) :: ([.fieldLink RX4 12 "MajorityIndex" "row" "LMajorityIndex$Row;", .fieldLink RX4 57 "MajorityIndex$Row" "length" "I", .fieldLink RX4 53 "MajorityIndex" "treeIsOld" "Z"] ++ wsX40 ++ wsX00)
def wsX4_slots : List Cond := .code yX4_slots cX4_slots 3 (some .int) :: ([.fieldLink RX4 49 "MajorityIndex" "slotsNow" "I", .fieldLink RX4 53 "MajorityIndex" "treeIsOld" "Z"] ++ wsX40)
def wsX4_isValue : List Cond := .code yX4_isValue cX4_isValue 1 (some .boolean) :: ([])
def wsX4_laidTree_r1 : List Cond := [Cond.fieldLink RX4 53 "MajorityIndex" "treeIsOld" "Z", Cond.fieldLink RX4 21 "MajorityIndex" "tree" "LMajorityIndex$Tree;", Cond.fieldLink RX4 49 "MajorityIndex" "slotsNow" "I", Cond.fieldLink RX4 204 "MajorityIndex$Tree" "slotsHere" "I", Cond.fieldLink RX4 12 "MajorityIndex" "row" "LMajorityIndex$Row;", Cond.fieldLink RX4 57 "MajorityIndex$Row" "length" "I", Cond.methodLink RX4 259 yX2_layRanges, Cond.instanceMethod yX2_layRanges, Cond.selects RX2 yX2_layRanges yX2_layRanges, Cond.initialized RX2, Cond.code yX2_layRanges cX2_layRanges 2 none, Cond.fieldLink RX2 40 "MajorityIndex$Tree" "row" "LMajorityIndex$Row;", Cond.fieldLink RX2 44 "MajorityIndex$Row" "length" "I", Cond.fieldLink RX2 50 "MajorityIndex$Tree" "nodes" "I", Cond.fieldLink RX2 18 "MajorityIndex$Tree" "from" "[I", Cond.fieldLink RX2 22 "MajorityIndex$Tree" "to" "[I", Cond.methodLink RX2 53 yX2_layBelow, Cond.instanceMethod yX2_layBelow, Cond.selects RX2 yX2_layBelow yX2_layBelow, Cond.code yX2_layBelow cX2_layBelow 4 none, Cond.methodLink RX2 57 yX2_rightBelow, Cond.instanceMethod yX2_rightBelow, Cond.selects RX2 yX2_rightBelow yX2_rightBelow, Cond.code yX2_rightBelow cX2_rightBelow 3 (some .int)]
def wsX4_laidTree_r2 : List Cond := [Cond.methodLink RX4 87 yX2_renew, Cond.instanceMethod yX2_renew, Cond.selects RX2 yX2_renew yX2_renew, Cond.code yX2_renew cX2_renew 5 (some .int), Cond.methodLink RX2 61 yX2_putTogether, Cond.instanceMethod yX2_putTogether, Cond.selects RX2 yX2_putTogether yX2_putTogether, Cond.code yX2_putTogether cX2_putTogether 2 none, Cond.fieldLink RX2 12 "MajorityIndex$Tree" "joined" "LMajorityIndex$Votes;", Cond.fieldLink RX2 74 "MajorityIndex$Row" "cell" "[I", Cond.fieldLink RX2 85 "MajorityIndex$Tree" "slotsHere" "I", Cond.methodLink RX2 71 yX3_clear, Cond.instanceMethod yX3_clear, Cond.selects RX3 yX3_clear yX3_clear, Cond.initialized RX3, Cond.code yX3_clear cX3_clear 1 none, Cond.fieldLink RX3 18 "MajorityIndex$Votes" "size" "I", Cond.fieldLink RX3 22 "MajorityIndex$Votes" "lost" "I", Cond.fieldLink RX3 25 "MajorityIndex$Votes" "lessBy" "I", Cond.methodLink RX2 77 yX3_add, Cond.instanceMethod yX3_add, Cond.selects RX3 yX3_add yX3_add, Cond.code yX3_add cX3_add 4 none, Cond.fieldLink RX3 9 "MajorityIndex$Votes" "value" "[I"]
def wsX4_laidTree_r3 : List Cond := [Cond.fieldLink RX3 15 "MajorityIndex$Votes" "number" "[I", Cond.methodLink RX2 81 yX2_joinNode, Cond.instanceMethod yX2_joinNode, Cond.selects RX2 yX2_joinNode yX2_joinNode, Cond.code yX2_joinNode cX2_joinNode 5 none, Cond.fieldLink RX2 25 "MajorityIndex$Tree" "size" "[I", Cond.fieldLink RX2 34 "MajorityIndex$Tree" "value" "[I", Cond.fieldLink RX2 37 "MajorityIndex$Tree" "number" "[I", Cond.fieldLink RX2 91 "MajorityIndex$Votes" "lost" "I", Cond.fieldLink RX2 28 "MajorityIndex$Tree" "lossOf" "[I", Cond.methodLink RX2 88 yX3_cancel, Cond.instanceMethod yX3_cancel, Cond.selects RX3 yX3_cancel yX3_cancel, Cond.code yX3_cancel cX3_cancel 4 none, Cond.methodLink RX3 32 yX3_order, Cond.instanceMethod yX3_order, Cond.selects RX3 yX3_order yX3_order, Cond.code yX3_order cX3_order 3 none, Cond.methodLink RX3 35 yX3_isAhead, Cond.instanceMethod yX3_isAhead, Cond.selects RX3 yX3_isAhead yX3_isAhead, Cond.code yX3_isAhead cX3_isAhead 3 (some .boolean), Cond.methodLink RX3 39 yX3_exchange, Cond.instanceMethod yX3_exchange]
def wsX4_laidTree_r4 : List Cond := [Cond.selects RX3 yX3_exchange yX3_exchange, Cond.code yX3_exchange cX3_exchange 5 none, Cond.methodLink RX2 64 yX2_isJoined, Cond.instanceMethod yX2_isJoined, Cond.selects RX2 yX2_isJoined yX2_isJoined, Cond.code yX2_isJoined cX2_isJoined 4 (some .boolean), Cond.fieldLink RX2 94 "MajorityIndex$Votes" "size" "I", Cond.fieldLink RX2 96 "MajorityIndex$Votes" "value" "[I", Cond.fieldLink RX2 97 "MajorityIndex$Votes" "number" "[I", Cond.methodLink RX2 68 yX2_keepJoined, Cond.instanceMethod yX2_keepJoined, Cond.selects RX2 yX2_keepJoined yX2_keepJoined, Cond.code yX2_keepJoined cX2_keepJoined 4 none, Cond.methodLink RX2 98 Lib.Math.min.name, Cond.static Lib.Math.min.name, Cond.initialized "java/lang/Math", Cond.code Lib.Math.min.name Lib.Math.min.code 2 (some .int), Cond.fieldLink RX2 31 "MajorityIndex$Tree" "lessBy" "[I", Cond.fieldLink RX2 104 "MajorityIndex$Votes" "lessBy" "I"]
def wsX4_laidTree : List Cond := .code yX4_laidTree cX4_laidTree 1 (some (.object "MajorityIndex$Tree")) :: ((wsX4_laidTree_r1 ++ (wsX4_laidTree_r2 ++ (wsX4_laidTree_r3 ++ wsX4_laidTree_r4))) ++ wsX40 ++ wsX20 ++ wsX00 ++ wsX30)
def wsX4_insert : List Cond := .code yX4_insert cX4_insert 3 (some .int) :: ([.fieldLink RX4 12 "MajorityIndex" "row" "LMajorityIndex$Row;", .fieldLink RX4 57 "MajorityIndex$Row" "length" "I", .fieldLink RX4 53 "MajorityIndex" "treeIsOld" "Z", .methodLink RX4 68 yX4_isValue, .static yX4_isValue, .initialized RX4, .code yX4_isValue cX4_isValue 1 (some .boolean), .methodLink RX4 99 yX0_putIn, .instanceMethod yX0_putIn, .selects RX0 yX0_putIn yX0_putIn, .initialized RX0, .code yX0_putIn cX0_putIn 4 none, .fieldLink RX0 15 "MajorityIndex$Row" "length" "I", .fieldLink RX0 9 "MajorityIndex$Row" "cell" "[I"] ++ wsX40 ++ wsX00)
def wsX4_remove : List Cond := .code yX4_remove cX4_remove 3 (some .int) :: ([.fieldLink RX4 12 "MajorityIndex" "row" "LMajorityIndex$Row;", .constant RX4 102 (-40000), .fieldLink RX4 53 "MajorityIndex" "treeIsOld" "Z", .methodLink RX4 64 yX0_hasPlace, .instanceMethod yX0_hasPlace, .selects RX0 yX0_hasPlace yX0_hasPlace, .initialized RX0, .code yX0_hasPlace cX0_hasPlace 2 (some .boolean), .fieldLink RX0 15 "MajorityIndex$Row" "length" "I", .methodLink RX4 103 yX0_takeOut, .instanceMethod yX0_takeOut, .selects RX0 yX0_takeOut yX0_takeOut, .code yX0_takeOut cX0_takeOut 4 (some .int), .constant RX0 23 (-40000), .fieldLink RX0 9 "MajorityIndex$Row" "cell" "[I", .methodLink RX0 19 yX0_hasPlace] ++ wsX40 ++ wsX00)
def wsX4_isShare : List Cond := .code yX4_isShare cX4_isShare 2 (some .boolean) :: ([])
set_option maxRecDepth 20000 in
theorem ggX4_feed_X0_append : GoodIn wsX4_feed wsX0_append := goodIn_r _ [8, 9, 10, 20, 21] rfl (by decide +kernel)
set_option maxRecDepth 20000 in
theorem gX4_feed_X0_append : GoodIn wsX4_feed (wsV RX4 60 RX0 yX0_append wsX0_append) := goodIn_app (goodIn_r _ [4, 5, 6, 7] rfl (by decide +kernel)) ggX4_feed_X0_append
def dt_cX4_feed_0 : List (Nat × Instr × Nat) := [(0, .aload_n 0, 1), (1, .getfield 12, 3), (4, .getfield 57, 3), (7, .iconst 4, 1), (8, .iadd, 1), (9, .sipush 160, 3), (12, .if_icmp .le 5, 3), (15, .iconst (-1), 1), (16, .ireturn, 1), (17, .aload_n 0, 1), (18, .getfield 12, 3), (21, .iload_n 1, 1), (22, .bipush 16, 2), (24, .ishr, 1), (25, .invokevirtual 60, 3), (28, .aload_n 0, 1), (29, .getfield 12, 3), (32, .iload_n 1, 1), (33, .i2s, 1), (34, .invokevirtual 60, 3), (37, .aload_n 0, 1), (38, .getfield 12, 3), (41, .iload_n 2, 1), (42, .bipush 16, 2), (44, .ishr, 1), (45, .invokevirtual 60, 3), (48, .aload_n 0, 1), (49, .getfield 12, 3), (52, .iload_n 2, 1), (53, .i2s, 1), (54, .invokevirtual 60, 3), (57, .aload_n 0, 1), (58, .iconst 1, 1), (59, .putfield 53, 3), (62, .aload_n 0, 1), (63, .getfield 12, 3), (66, .getfield 57, 3), (69, .ireturn, 1)]
theorem da_cX4_feed_0 : dk_all cX4_feed dt_cX4_feed_0 = true := by decide +kernel
theorem dX4_feed_0 : decode cX4_feed 0 = .ok (.aload_n 0, 1) := dk_get _ da_cX4_feed_0 0 _ _ _ rfl
theorem dX4_feed_1 : decode cX4_feed 1 = .ok (.getfield 12, 3) := dk_get _ da_cX4_feed_0 1 _ _ _ rfl
theorem dX4_feed_4 : decode cX4_feed 4 = .ok (.getfield 57, 3) := dk_get _ da_cX4_feed_0 2 _ _ _ rfl
theorem dX4_feed_7 : decode cX4_feed 7 = .ok (.iconst 4, 1) := dk_get _ da_cX4_feed_0 3 _ _ _ rfl
theorem dX4_feed_8 : decode cX4_feed 8 = .ok (.iadd, 1) := dk_get _ da_cX4_feed_0 4 _ _ _ rfl
theorem dX4_feed_9 : decode cX4_feed 9 = .ok (.sipush 160, 3) := dk_get _ da_cX4_feed_0 5 _ _ _ rfl
theorem dX4_feed_12 : decode cX4_feed 12 = .ok (.if_icmp .le 5, 3) := dk_get _ da_cX4_feed_0 6 _ _ _ rfl
theorem dX4_feed_15 : decode cX4_feed 15 = .ok (.iconst (-1), 1) := dk_get _ da_cX4_feed_0 7 _ _ _ rfl
theorem dX4_feed_16 : decode cX4_feed 16 = .ok (.ireturn, 1) := dk_get _ da_cX4_feed_0 8 _ _ _ rfl
theorem dX4_feed_17 : decode cX4_feed 17 = .ok (.aload_n 0, 1) := dk_get _ da_cX4_feed_0 9 _ _ _ rfl
theorem dX4_feed_18 : decode cX4_feed 18 = .ok (.getfield 12, 3) := dk_get _ da_cX4_feed_0 10 _ _ _ rfl
theorem dX4_feed_21 : decode cX4_feed 21 = .ok (.iload_n 1, 1) := dk_get _ da_cX4_feed_0 11 _ _ _ rfl
theorem dX4_feed_22 : decode cX4_feed 22 = .ok (.bipush 16, 2) := dk_get _ da_cX4_feed_0 12 _ _ _ rfl
theorem dX4_feed_24 : decode cX4_feed 24 = .ok (.ishr, 1) := dk_get _ da_cX4_feed_0 13 _ _ _ rfl
theorem dX4_feed_25 : decode cX4_feed 25 = .ok (.invokevirtual 60, 3) := dk_get _ da_cX4_feed_0 14 _ _ _ rfl
theorem dX4_feed_28 : decode cX4_feed 28 = .ok (.aload_n 0, 1) := dk_get _ da_cX4_feed_0 15 _ _ _ rfl
theorem dX4_feed_29 : decode cX4_feed 29 = .ok (.getfield 12, 3) := dk_get _ da_cX4_feed_0 16 _ _ _ rfl
theorem dX4_feed_32 : decode cX4_feed 32 = .ok (.iload_n 1, 1) := dk_get _ da_cX4_feed_0 17 _ _ _ rfl
theorem dX4_feed_33 : decode cX4_feed 33 = .ok (.i2s, 1) := dk_get _ da_cX4_feed_0 18 _ _ _ rfl
theorem dX4_feed_34 : decode cX4_feed 34 = .ok (.invokevirtual 60, 3) := dk_get _ da_cX4_feed_0 19 _ _ _ rfl
theorem dX4_feed_37 : decode cX4_feed 37 = .ok (.aload_n 0, 1) := dk_get _ da_cX4_feed_0 20 _ _ _ rfl
theorem dX4_feed_38 : decode cX4_feed 38 = .ok (.getfield 12, 3) := dk_get _ da_cX4_feed_0 21 _ _ _ rfl
theorem dX4_feed_41 : decode cX4_feed 41 = .ok (.iload_n 2, 1) := dk_get _ da_cX4_feed_0 22 _ _ _ rfl
theorem dX4_feed_42 : decode cX4_feed 42 = .ok (.bipush 16, 2) := dk_get _ da_cX4_feed_0 23 _ _ _ rfl
theorem dX4_feed_44 : decode cX4_feed 44 = .ok (.ishr, 1) := dk_get _ da_cX4_feed_0 24 _ _ _ rfl
theorem dX4_feed_45 : decode cX4_feed 45 = .ok (.invokevirtual 60, 3) := dk_get _ da_cX4_feed_0 25 _ _ _ rfl
theorem dX4_feed_48 : decode cX4_feed 48 = .ok (.aload_n 0, 1) := dk_get _ da_cX4_feed_0 26 _ _ _ rfl
theorem dX4_feed_49 : decode cX4_feed 49 = .ok (.getfield 12, 3) := dk_get _ da_cX4_feed_0 27 _ _ _ rfl
theorem dX4_feed_52 : decode cX4_feed 52 = .ok (.iload_n 2, 1) := dk_get _ da_cX4_feed_0 28 _ _ _ rfl
theorem dX4_feed_53 : decode cX4_feed 53 = .ok (.i2s, 1) := dk_get _ da_cX4_feed_0 29 _ _ _ rfl
theorem dX4_feed_54 : decode cX4_feed 54 = .ok (.invokevirtual 60, 3) := dk_get _ da_cX4_feed_0 30 _ _ _ rfl
theorem dX4_feed_57 : decode cX4_feed 57 = .ok (.aload_n 0, 1) := dk_get _ da_cX4_feed_0 31 _ _ _ rfl
theorem dX4_feed_58 : decode cX4_feed 58 = .ok (.iconst 1, 1) := dk_get _ da_cX4_feed_0 32 _ _ _ rfl
theorem dX4_feed_59 : decode cX4_feed 59 = .ok (.putfield 53, 3) := dk_get _ da_cX4_feed_0 33 _ _ _ rfl
theorem dX4_feed_62 : decode cX4_feed 62 = .ok (.aload_n 0, 1) := dk_get _ da_cX4_feed_0 34 _ _ _ rfl
theorem dX4_feed_63 : decode cX4_feed 63 = .ok (.getfield 12, 3) := dk_get _ da_cX4_feed_0 35 _ _ _ rfl
theorem dX4_feed_66 : decode cX4_feed 66 = .ok (.getfield 57, 3) := dk_get _ da_cX4_feed_0 36 _ _ _ rfl
theorem dX4_feed_69 : decode cX4_feed 69 = .ok (.ireturn, 1) := dk_get _ da_cX4_feed_0 37 _ _ _ rfl
def dt_cX4_end_0 : List (Nat × Instr × Nat) := [(0, .iload_n 1, 1), (1, .ifCond .lt 14, 3), (4, .iload_n 1, 1), (5, .aload_n 0, 1), (6, .getfield 12, 3), (9, .getfield 57, 3), (12, .if_icmp .le 5, 3), (15, .iconst (-1), 1), (16, .ireturn, 1), (17, .aload_n 0, 1), (18, .getfield 12, 3), (21, .iload_n 1, 1), (22, .putfield 57, 3), (25, .aload_n 0, 1), (26, .iconst 1, 1), (27, .putfield 53, 3), (30, .iload_n 1, 1), (31, .ireturn, 1)]
theorem da_cX4_end_0 : dk_all cX4_end dt_cX4_end_0 = true := by decide +kernel
theorem dX4_end_0 : decode cX4_end 0 = .ok (.iload_n 1, 1) := dk_get _ da_cX4_end_0 0 _ _ _ rfl
theorem dX4_end_1 : decode cX4_end 1 = .ok (.ifCond .lt 14, 3) := dk_get _ da_cX4_end_0 1 _ _ _ rfl
theorem dX4_end_4 : decode cX4_end 4 = .ok (.iload_n 1, 1) := dk_get _ da_cX4_end_0 2 _ _ _ rfl
theorem dX4_end_5 : decode cX4_end 5 = .ok (.aload_n 0, 1) := dk_get _ da_cX4_end_0 3 _ _ _ rfl
theorem dX4_end_6 : decode cX4_end 6 = .ok (.getfield 12, 3) := dk_get _ da_cX4_end_0 4 _ _ _ rfl
theorem dX4_end_9 : decode cX4_end 9 = .ok (.getfield 57, 3) := dk_get _ da_cX4_end_0 5 _ _ _ rfl
theorem dX4_end_12 : decode cX4_end 12 = .ok (.if_icmp .le 5, 3) := dk_get _ da_cX4_end_0 6 _ _ _ rfl
theorem dX4_end_15 : decode cX4_end 15 = .ok (.iconst (-1), 1) := dk_get _ da_cX4_end_0 7 _ _ _ rfl
theorem dX4_end_16 : decode cX4_end 16 = .ok (.ireturn, 1) := dk_get _ da_cX4_end_0 8 _ _ _ rfl
theorem dX4_end_17 : decode cX4_end 17 = .ok (.aload_n 0, 1) := dk_get _ da_cX4_end_0 9 _ _ _ rfl
theorem dX4_end_18 : decode cX4_end 18 = .ok (.getfield 12, 3) := dk_get _ da_cX4_end_0 10 _ _ _ rfl
theorem dX4_end_21 : decode cX4_end 21 = .ok (.iload_n 1, 1) := dk_get _ da_cX4_end_0 11 _ _ _ rfl
theorem dX4_end_22 : decode cX4_end 22 = .ok (.putfield 57, 3) := dk_get _ da_cX4_end_0 12 _ _ _ rfl
theorem dX4_end_25 : decode cX4_end 25 = .ok (.aload_n 0, 1) := dk_get _ da_cX4_end_0 13 _ _ _ rfl
theorem dX4_end_26 : decode cX4_end 26 = .ok (.iconst 1, 1) := dk_get _ da_cX4_end_0 14 _ _ _ rfl
theorem dX4_end_27 : decode cX4_end 27 = .ok (.putfield 53, 3) := dk_get _ da_cX4_end_0 15 _ _ _ rfl
theorem dX4_end_30 : decode cX4_end 30 = .ok (.iload_n 1, 1) := dk_get _ da_cX4_end_0 16 _ _ _ rfl
theorem dX4_end_31 : decode cX4_end 31 = .ok (.ireturn, 1) := dk_get _ da_cX4_end_0 17 _ _ _ rfl
def dt_cX4_slots_0 : List (Nat × Instr × Nat) := [(0, .iload_n 1, 1), (1, .iconst 1, 1), (2, .if_icmp .lt 9, 3), (5, .iload_n 1, 1), (6, .bipush 6, 2), (8, .if_icmp .le 5, 3), (11, .iconst (-1), 1), (12, .ireturn, 1), (13, .aload_n 0, 1), (14, .getfield 49, 3), (17, .istore_n 2, 1), (18, .aload_n 0, 1), (19, .iload_n 1, 1), (20, .putfield 49, 3), (23, .aload_n 0, 1), (24, .iconst 1, 1), (25, .putfield 53, 3), (28, .iload_n 2, 1), (29, .ireturn, 1)]
theorem da_cX4_slots_0 : dk_all cX4_slots dt_cX4_slots_0 = true := by decide +kernel
theorem dX4_slots_0 : decode cX4_slots 0 = .ok (.iload_n 1, 1) := dk_get _ da_cX4_slots_0 0 _ _ _ rfl
theorem dX4_slots_1 : decode cX4_slots 1 = .ok (.iconst 1, 1) := dk_get _ da_cX4_slots_0 1 _ _ _ rfl
theorem dX4_slots_2 : decode cX4_slots 2 = .ok (.if_icmp .lt 9, 3) := dk_get _ da_cX4_slots_0 2 _ _ _ rfl
theorem dX4_slots_5 : decode cX4_slots 5 = .ok (.iload_n 1, 1) := dk_get _ da_cX4_slots_0 3 _ _ _ rfl
theorem dX4_slots_6 : decode cX4_slots 6 = .ok (.bipush 6, 2) := dk_get _ da_cX4_slots_0 4 _ _ _ rfl
theorem dX4_slots_8 : decode cX4_slots 8 = .ok (.if_icmp .le 5, 3) := dk_get _ da_cX4_slots_0 5 _ _ _ rfl
theorem dX4_slots_11 : decode cX4_slots 11 = .ok (.iconst (-1), 1) := dk_get _ da_cX4_slots_0 6 _ _ _ rfl
theorem dX4_slots_12 : decode cX4_slots 12 = .ok (.ireturn, 1) := dk_get _ da_cX4_slots_0 7 _ _ _ rfl
theorem dX4_slots_13 : decode cX4_slots 13 = .ok (.aload_n 0, 1) := dk_get _ da_cX4_slots_0 8 _ _ _ rfl
theorem dX4_slots_14 : decode cX4_slots 14 = .ok (.getfield 49, 3) := dk_get _ da_cX4_slots_0 9 _ _ _ rfl
theorem dX4_slots_17 : decode cX4_slots 17 = .ok (.istore_n 2, 1) := dk_get _ da_cX4_slots_0 10 _ _ _ rfl
theorem dX4_slots_18 : decode cX4_slots 18 = .ok (.aload_n 0, 1) := dk_get _ da_cX4_slots_0 11 _ _ _ rfl
theorem dX4_slots_19 : decode cX4_slots 19 = .ok (.iload_n 1, 1) := dk_get _ da_cX4_slots_0 12 _ _ _ rfl
theorem dX4_slots_20 : decode cX4_slots 20 = .ok (.putfield 49, 3) := dk_get _ da_cX4_slots_0 13 _ _ _ rfl
theorem dX4_slots_23 : decode cX4_slots 23 = .ok (.aload_n 0, 1) := dk_get _ da_cX4_slots_0 14 _ _ _ rfl
theorem dX4_slots_24 : decode cX4_slots 24 = .ok (.iconst 1, 1) := dk_get _ da_cX4_slots_0 15 _ _ _ rfl
theorem dX4_slots_25 : decode cX4_slots 25 = .ok (.putfield 53, 3) := dk_get _ da_cX4_slots_0 16 _ _ _ rfl
theorem dX4_slots_28 : decode cX4_slots 28 = .ok (.iload_n 2, 1) := dk_get _ da_cX4_slots_0 17 _ _ _ rfl
theorem dX4_slots_29 : decode cX4_slots 29 = .ok (.ireturn, 1) := dk_get _ da_cX4_slots_0 18 _ _ _ rfl
set_option maxRecDepth 20000 in
theorem ggX4_insert_X4_isValue : GoodIn wsX4_insert wsX4_isValue := goodIn_r _ [7] rfl (by decide +kernel)
set_option maxRecDepth 20000 in
theorem gX4_insert_X4_isValue : GoodIn wsX4_insert (va_wsS RX4 68 yX4_isValue wsX4_isValue) := goodIn_app (goodIn_r _ [4, 5, 6] rfl (by decide +kernel)) ggX4_insert_X4_isValue
set_option maxRecDepth 20000 in
theorem ggX4_insert_X0_putIn : GoodIn wsX4_insert wsX0_putIn := goodIn_r _ [12, 13, 14, 24, 25] rfl (by decide +kernel)
set_option maxRecDepth 20000 in
theorem gX4_insert_X0_putIn : GoodIn wsX4_insert (wsV RX4 99 RX0 yX0_putIn wsX0_putIn) := goodIn_app (goodIn_r _ [8, 9, 10, 11] rfl (by decide +kernel)) ggX4_insert_X0_putIn
def dt_cX4_insert_0 : List (Nat × Instr × Nat) := [(0, .iload_n 1, 1), (1, .ifCond .lt 34, 3), (4, .iload_n 1, 1), (5, .aload_n 0, 1), (6, .getfield 12, 3), (9, .getfield 57, 3), (12, .if_icmp .gt 23, 3), (15, .iload_n 2, 1), (16, .invokestatic 68, 3), (19, .ifCond .eq 16, 3), (22, .aload_n 0, 1), (23, .getfield 12, 3), (26, .getfield 57, 3), (29, .sipush 160, 3), (32, .if_icmp .lt 5, 3), (35, .iconst (-1), 1), (36, .ireturn, 1), (37, .aload_n 0, 1), (38, .getfield 12, 3), (41, .iload_n 1, 1), (42, .iload_n 2, 1), (43, .invokevirtual 99, 3), (46, .aload_n 0, 1), (47, .iconst 1, 1), (48, .putfield 53, 3), (51, .aload_n 0, 1), (52, .getfield 12, 3), (55, .getfield 57, 3), (58, .ireturn, 1)]
theorem da_cX4_insert_0 : dk_all cX4_insert dt_cX4_insert_0 = true := by decide +kernel
theorem dX4_insert_0 : decode cX4_insert 0 = .ok (.iload_n 1, 1) := dk_get _ da_cX4_insert_0 0 _ _ _ rfl
theorem dX4_insert_1 : decode cX4_insert 1 = .ok (.ifCond .lt 34, 3) := dk_get _ da_cX4_insert_0 1 _ _ _ rfl
theorem dX4_insert_4 : decode cX4_insert 4 = .ok (.iload_n 1, 1) := dk_get _ da_cX4_insert_0 2 _ _ _ rfl
theorem dX4_insert_5 : decode cX4_insert 5 = .ok (.aload_n 0, 1) := dk_get _ da_cX4_insert_0 3 _ _ _ rfl
theorem dX4_insert_6 : decode cX4_insert 6 = .ok (.getfield 12, 3) := dk_get _ da_cX4_insert_0 4 _ _ _ rfl
theorem dX4_insert_9 : decode cX4_insert 9 = .ok (.getfield 57, 3) := dk_get _ da_cX4_insert_0 5 _ _ _ rfl
theorem dX4_insert_12 : decode cX4_insert 12 = .ok (.if_icmp .gt 23, 3) := dk_get _ da_cX4_insert_0 6 _ _ _ rfl
theorem dX4_insert_15 : decode cX4_insert 15 = .ok (.iload_n 2, 1) := dk_get _ da_cX4_insert_0 7 _ _ _ rfl
theorem dX4_insert_16 : decode cX4_insert 16 = .ok (.invokestatic 68, 3) := dk_get _ da_cX4_insert_0 8 _ _ _ rfl
theorem dX4_insert_19 : decode cX4_insert 19 = .ok (.ifCond .eq 16, 3) := dk_get _ da_cX4_insert_0 9 _ _ _ rfl
theorem dX4_insert_22 : decode cX4_insert 22 = .ok (.aload_n 0, 1) := dk_get _ da_cX4_insert_0 10 _ _ _ rfl
theorem dX4_insert_23 : decode cX4_insert 23 = .ok (.getfield 12, 3) := dk_get _ da_cX4_insert_0 11 _ _ _ rfl
theorem dX4_insert_26 : decode cX4_insert 26 = .ok (.getfield 57, 3) := dk_get _ da_cX4_insert_0 12 _ _ _ rfl
theorem dX4_insert_29 : decode cX4_insert 29 = .ok (.sipush 160, 3) := dk_get _ da_cX4_insert_0 13 _ _ _ rfl
theorem dX4_insert_32 : decode cX4_insert 32 = .ok (.if_icmp .lt 5, 3) := dk_get _ da_cX4_insert_0 14 _ _ _ rfl
theorem dX4_insert_35 : decode cX4_insert 35 = .ok (.iconst (-1), 1) := dk_get _ da_cX4_insert_0 15 _ _ _ rfl
theorem dX4_insert_36 : decode cX4_insert 36 = .ok (.ireturn, 1) := dk_get _ da_cX4_insert_0 16 _ _ _ rfl
theorem dX4_insert_37 : decode cX4_insert 37 = .ok (.aload_n 0, 1) := dk_get _ da_cX4_insert_0 17 _ _ _ rfl
theorem dX4_insert_38 : decode cX4_insert 38 = .ok (.getfield 12, 3) := dk_get _ da_cX4_insert_0 18 _ _ _ rfl
theorem dX4_insert_41 : decode cX4_insert 41 = .ok (.iload_n 1, 1) := dk_get _ da_cX4_insert_0 19 _ _ _ rfl
theorem dX4_insert_42 : decode cX4_insert 42 = .ok (.iload_n 2, 1) := dk_get _ da_cX4_insert_0 20 _ _ _ rfl
theorem dX4_insert_43 : decode cX4_insert 43 = .ok (.invokevirtual 99, 3) := dk_get _ da_cX4_insert_0 21 _ _ _ rfl
theorem dX4_insert_46 : decode cX4_insert 46 = .ok (.aload_n 0, 1) := dk_get _ da_cX4_insert_0 22 _ _ _ rfl
theorem dX4_insert_47 : decode cX4_insert 47 = .ok (.iconst 1, 1) := dk_get _ da_cX4_insert_0 23 _ _ _ rfl
theorem dX4_insert_48 : decode cX4_insert 48 = .ok (.putfield 53, 3) := dk_get _ da_cX4_insert_0 24 _ _ _ rfl
theorem dX4_insert_51 : decode cX4_insert 51 = .ok (.aload_n 0, 1) := dk_get _ da_cX4_insert_0 25 _ _ _ rfl
theorem dX4_insert_52 : decode cX4_insert 52 = .ok (.getfield 12, 3) := dk_get _ da_cX4_insert_0 26 _ _ _ rfl
theorem dX4_insert_55 : decode cX4_insert 55 = .ok (.getfield 57, 3) := dk_get _ da_cX4_insert_0 27 _ _ _ rfl
theorem dX4_insert_58 : decode cX4_insert 58 = .ok (.ireturn, 1) := dk_get _ da_cX4_insert_0 28 _ _ _ rfl
set_option maxRecDepth 20000 in
theorem ggX4_remove_X0_hasPlace : GoodIn wsX4_remove wsX0_hasPlace := goodIn_r _ [8, 9, 26, 27] rfl (by decide +kernel)
set_option maxRecDepth 20000 in
theorem gX4_remove_X0_hasPlace : GoodIn wsX4_remove (wsV RX4 64 RX0 yX0_hasPlace wsX0_hasPlace) := goodIn_app (goodIn_r _ [4, 5, 6, 7] rfl (by decide +kernel)) ggX4_remove_X0_hasPlace
set_option maxRecDepth 20000 in
theorem ggX4_remove_X0_takeOut : GoodIn wsX4_remove wsX0_takeOut := goodIn_r _ [13, 14, 15, 9, 16, 5, 6, 7, 8, 26, 27] rfl (by decide +kernel)
set_option maxRecDepth 20000 in
theorem gX4_remove_X0_takeOut : GoodIn wsX4_remove (wsV RX4 103 RX0 yX0_takeOut wsX0_takeOut) := goodIn_app (goodIn_r _ [10, 11, 12, 7] rfl (by decide +kernel)) ggX4_remove_X0_takeOut
def dt_cX4_remove_0 : List (Nat × Instr × Nat) := [(0, .aload_n 0, 1), (1, .getfield 12, 3), (4, .iload_n 1, 1), (5, .invokevirtual 64, 3), (8, .ifCond .ne 6, 3), (11, .ldc 102, 2), (13, .ireturn, 1), (14, .aload_n 0, 1), (15, .getfield 12, 3), (18, .iload_n 1, 1), (19, .invokevirtual 103, 3), (22, .istore_n 2, 1), (23, .aload_n 0, 1), (24, .iconst 1, 1), (25, .putfield 53, 3), (28, .iload_n 2, 1), (29, .ireturn, 1)]
theorem da_cX4_remove_0 : dk_all cX4_remove dt_cX4_remove_0 = true := by decide +kernel
theorem dX4_remove_0 : decode cX4_remove 0 = .ok (.aload_n 0, 1) := dk_get _ da_cX4_remove_0 0 _ _ _ rfl
theorem dX4_remove_1 : decode cX4_remove 1 = .ok (.getfield 12, 3) := dk_get _ da_cX4_remove_0 1 _ _ _ rfl
theorem dX4_remove_4 : decode cX4_remove 4 = .ok (.iload_n 1, 1) := dk_get _ da_cX4_remove_0 2 _ _ _ rfl
theorem dX4_remove_5 : decode cX4_remove 5 = .ok (.invokevirtual 64, 3) := dk_get _ da_cX4_remove_0 3 _ _ _ rfl
theorem dX4_remove_8 : decode cX4_remove 8 = .ok (.ifCond .ne 6, 3) := dk_get _ da_cX4_remove_0 4 _ _ _ rfl
theorem dX4_remove_11 : decode cX4_remove 11 = .ok (.ldc 102, 2) := dk_get _ da_cX4_remove_0 5 _ _ _ rfl
theorem dX4_remove_13 : decode cX4_remove 13 = .ok (.ireturn, 1) := dk_get _ da_cX4_remove_0 6 _ _ _ rfl
theorem dX4_remove_14 : decode cX4_remove 14 = .ok (.aload_n 0, 1) := dk_get _ da_cX4_remove_0 7 _ _ _ rfl
theorem dX4_remove_15 : decode cX4_remove 15 = .ok (.getfield 12, 3) := dk_get _ da_cX4_remove_0 8 _ _ _ rfl
theorem dX4_remove_18 : decode cX4_remove 18 = .ok (.iload_n 1, 1) := dk_get _ da_cX4_remove_0 9 _ _ _ rfl
theorem dX4_remove_19 : decode cX4_remove 19 = .ok (.invokevirtual 103, 3) := dk_get _ da_cX4_remove_0 10 _ _ _ rfl
theorem dX4_remove_22 : decode cX4_remove 22 = .ok (.istore_n 2, 1) := dk_get _ da_cX4_remove_0 11 _ _ _ rfl
theorem dX4_remove_23 : decode cX4_remove 23 = .ok (.aload_n 0, 1) := dk_get _ da_cX4_remove_0 12 _ _ _ rfl
theorem dX4_remove_24 : decode cX4_remove 24 = .ok (.iconst 1, 1) := dk_get _ da_cX4_remove_0 13 _ _ _ rfl
theorem dX4_remove_25 : decode cX4_remove 25 = .ok (.putfield 53, 3) := dk_get _ da_cX4_remove_0 14 _ _ _ rfl
theorem dX4_remove_28 : decode cX4_remove 28 = .ok (.iload_n 2, 1) := dk_get _ da_cX4_remove_0 15 _ _ _ rfl
theorem dX4_remove_29 : decode cX4_remove 29 = .ok (.ireturn, 1) := dk_get _ da_cX4_remove_0 16 _ _ _ rfl
def dt_cX4_isValue_0 : List (Nat × Instr × Nat) := [(0, .iload_n 0, 1), (1, .sipush (-32768), 3), (4, .if_icmp .lt 14, 3), (7, .iload_n 0, 1), (8, .sipush 32767, 3), (11, .if_icmp .gt 7, 3), (14, .iconst 1, 1), (15, .goto 4, 3), (18, .iconst 0, 1), (19, .ireturn, 1)]
theorem da_cX4_isValue_0 : dk_all cX4_isValue dt_cX4_isValue_0 = true := by decide +kernel
theorem dX4_isValue_0 : decode cX4_isValue 0 = .ok (.iload_n 0, 1) := dk_get _ da_cX4_isValue_0 0 _ _ _ rfl
theorem dX4_isValue_1 : decode cX4_isValue 1 = .ok (.sipush (-32768), 3) := dk_get _ da_cX4_isValue_0 1 _ _ _ rfl
theorem dX4_isValue_4 : decode cX4_isValue 4 = .ok (.if_icmp .lt 14, 3) := dk_get _ da_cX4_isValue_0 2 _ _ _ rfl
theorem dX4_isValue_7 : decode cX4_isValue 7 = .ok (.iload_n 0, 1) := dk_get _ da_cX4_isValue_0 3 _ _ _ rfl
theorem dX4_isValue_8 : decode cX4_isValue 8 = .ok (.sipush 32767, 3) := dk_get _ da_cX4_isValue_0 4 _ _ _ rfl
theorem dX4_isValue_11 : decode cX4_isValue 11 = .ok (.if_icmp .gt 7, 3) := dk_get _ da_cX4_isValue_0 5 _ _ _ rfl
theorem dX4_isValue_14 : decode cX4_isValue 14 = .ok (.iconst 1, 1) := dk_get _ da_cX4_isValue_0 6 _ _ _ rfl
theorem dX4_isValue_15 : decode cX4_isValue 15 = .ok (.goto 4, 3) := dk_get _ da_cX4_isValue_0 7 _ _ _ rfl
theorem dX4_isValue_18 : decode cX4_isValue 18 = .ok (.iconst 0, 1) := dk_get _ da_cX4_isValue_0 8 _ _ _ rfl
theorem dX4_isValue_19 : decode cX4_isValue 19 = .ok (.ireturn, 1) := dk_get _ da_cX4_isValue_0 9 _ _ _ rfl
def dt_cX4_isShare_0 : List (Nat × Instr × Nat) := [(0, .iload_n 0, 1), (1, .iconst 1, 1), (2, .if_icmp .lt 19, 3), (5, .iload_n 1, 1), (6, .iload_n 0, 1), (7, .if_icmp .lt 14, 3), (10, .iload_n 1, 1), (11, .sipush 999, 3), (14, .if_icmp .gt 7, 3), (17, .iconst 1, 1), (18, .goto 4, 3), (21, .iconst 0, 1), (22, .ireturn, 1)]
theorem da_cX4_isShare_0 : dk_all cX4_isShare dt_cX4_isShare_0 = true := by decide +kernel
theorem dX4_isShare_0 : decode cX4_isShare 0 = .ok (.iload_n 0, 1) := dk_get _ da_cX4_isShare_0 0 _ _ _ rfl
theorem dX4_isShare_1 : decode cX4_isShare 1 = .ok (.iconst 1, 1) := dk_get _ da_cX4_isShare_0 1 _ _ _ rfl
theorem dX4_isShare_2 : decode cX4_isShare 2 = .ok (.if_icmp .lt 19, 3) := dk_get _ da_cX4_isShare_0 2 _ _ _ rfl
theorem dX4_isShare_5 : decode cX4_isShare 5 = .ok (.iload_n 1, 1) := dk_get _ da_cX4_isShare_0 3 _ _ _ rfl
theorem dX4_isShare_6 : decode cX4_isShare 6 = .ok (.iload_n 0, 1) := dk_get _ da_cX4_isShare_0 4 _ _ _ rfl
theorem dX4_isShare_7 : decode cX4_isShare 7 = .ok (.if_icmp .lt 14, 3) := dk_get _ da_cX4_isShare_0 5 _ _ _ rfl
theorem dX4_isShare_10 : decode cX4_isShare 10 = .ok (.iload_n 1, 1) := dk_get _ da_cX4_isShare_0 6 _ _ _ rfl
theorem dX4_isShare_11 : decode cX4_isShare 11 = .ok (.sipush 999, 3) := dk_get _ da_cX4_isShare_0 7 _ _ _ rfl
theorem dX4_isShare_14 : decode cX4_isShare 14 = .ok (.if_icmp .gt 7, 3) := dk_get _ da_cX4_isShare_0 8 _ _ _ rfl
theorem dX4_isShare_17 : decode cX4_isShare 17 = .ok (.iconst 1, 1) := dk_get _ da_cX4_isShare_0 9 _ _ _ rfl
theorem dX4_isShare_18 : decode cX4_isShare 18 = .ok (.goto 4, 3) := dk_get _ da_cX4_isShare_0 10 _ _ _ rfl
theorem dX4_isShare_21 : decode cX4_isShare 21 = .ok (.iconst 0, 1) := dk_get _ da_cX4_isShare_0 11 _ _ _ rfl
theorem dX4_isShare_22 : decode cX4_isShare 22 = .ok (.ireturn, 1) := dk_get _ da_cX4_isShare_0 12 _ _ _ rfl
theorem mi_wsX4_laidTree_wsX4_laidTree_r1 : ∀ w ∈ wsX4_laidTree_r1, w ∈ wsX4_laidTree := fun _ h => (List.mem_cons_of_mem _ (List.mem_append_left _ (List.mem_append_left _ (List.mem_append_left _ (List.mem_append_left _ (List.mem_append_left _ h))))))
theorem mi_wsX4_laidTree_wsX20 : ∀ w ∈ wsX20, w ∈ wsX4_laidTree := fun _ h => (List.mem_cons_of_mem _ (List.mem_append_left _ (List.mem_append_left _ (List.mem_append_right _ h))))
theorem mi_wsX4_laidTree_wsX00 : ∀ w ∈ wsX00, w ∈ wsX4_laidTree := fun _ h => (List.mem_cons_of_mem _ (List.mem_append_left _ (List.mem_append_right _ h)))
set_option maxRecDepth 20000 in
theorem ggX4_laidTree_X2_layRanges : GoodIn wsX4_laidTree wsX2_layRanges := goodIn_k _ [(wsX4_laidTree_r1, [10, 11, 12, 13, 14, 15, 16, 17, 18, 9, 19, 20, 21, 22, 23]), (wsX20, [0, 1, 2, 3, 4, 5, 6, 7, 8, 9, 10]), (wsX00, [0, 1])] (gk_c mi_wsX4_laidTree_wsX4_laidTree_r1 (gk_c mi_wsX4_laidTree_wsX20 (gk_c mi_wsX4_laidTree_wsX00 gk_n))) rfl (by decide +kernel)
set_option maxRecDepth 20000 in
theorem gX4_laidTree_X2_layRanges : GoodIn wsX4_laidTree (wsV RX4 259 RX2 yX2_layRanges wsX2_layRanges) := goodIn_app (goodIn_k _ [(wsX4_laidTree_r1, [6, 7, 8, 9])] (gk_c mi_wsX4_laidTree_wsX4_laidTree_r1 gk_n) rfl (by decide +kernel)) ggX4_laidTree_X2_layRanges
theorem mi_wsX4_laidTree_wsX4_laidTree_r2 : ∀ w ∈ wsX4_laidTree_r2, w ∈ wsX4_laidTree := fun _ h => (List.mem_cons_of_mem _ (List.mem_append_left _ (List.mem_append_left _ (List.mem_append_left _ (List.mem_append_left _ (List.mem_append_right _ (List.mem_append_left _ h)))))))
theorem mi_wsX4_laidTree_wsX4_laidTree_r3 : ∀ w ∈ wsX4_laidTree_r3, w ∈ wsX4_laidTree := fun _ h => (List.mem_cons_of_mem _ (List.mem_append_left _ (List.mem_append_left _ (List.mem_append_left _ (List.mem_append_left _ (List.mem_append_right _ (List.mem_append_right _ (List.mem_append_left _ h))))))))
theorem mi_wsX4_laidTree_wsX4_laidTree_r4 : ∀ w ∈ wsX4_laidTree_r4, w ∈ wsX4_laidTree := fun _ h => (List.mem_cons_of_mem _ (List.mem_append_left _ (List.mem_append_left _ (List.mem_append_left _ (List.mem_append_left _ (List.mem_append_right _ (List.mem_append_right _ (List.mem_append_right _ h))))))))
theorem mi_wsX4_laidTree_wsX30 : ∀ w ∈ wsX30, w ∈ wsX4_laidTree := fun _ h => (List.mem_cons_of_mem _ (List.mem_append_right _ h))
set_option maxRecDepth 20000 in
theorem ggX4_laidTree_X2_renew : GoodIn wsX4_laidTree wsX2_renew := goodIn_k _ [(wsX4_laidTree_r2, [3]), (wsX4_laidTree_r1, [13, 14, 15]), (wsX4_laidTree_r2, [4, 5, 6]), (wsX4_laidTree_r1, [9]), (wsX4_laidTree_r2, [7, 8]), (wsX4_laidTree_r1, [11]), (wsX4_laidTree_r2, [9, 10, 11, 12, 13, 14, 15, 16, 17, 18, 19, 20, 21, 22, 23]), (wsX4_laidTree_r3, [0, 1, 2, 3, 4, 5, 6, 7, 8, 9]), (wsX4_laidTree_r1, [20, 21, 22, 23]), (wsX4_laidTree_r3, [10, 11, 12, 13, 14, 15, 16, 17, 18, 19, 20, 21, 22, 23]), (wsX4_laidTree_r4, [0, 1, 2, 3, 4, 5, 6, 7, 8, 9, 10, 11, 12, 13, 14, 15, 16, 17, 18]), (wsX20, [0, 1, 2, 3, 4, 5, 6, 7, 8, 9, 10]), (wsX00, [0, 1]), (wsX30, [0, 1, 2, 3, 4])] (gk_c mi_wsX4_laidTree_wsX4_laidTree_r2 (gk_c mi_wsX4_laidTree_wsX4_laidTree_r1 (gk_c mi_wsX4_laidTree_wsX4_laidTree_r2 (gk_c mi_wsX4_laidTree_wsX4_laidTree_r1 (gk_c mi_wsX4_laidTree_wsX4_laidTree_r2 (gk_c mi_wsX4_laidTree_wsX4_laidTree_r1 (gk_c mi_wsX4_laidTree_wsX4_laidTree_r2 (gk_c mi_wsX4_laidTree_wsX4_laidTree_r3 (gk_c mi_wsX4_laidTree_wsX4_laidTree_r1 (gk_c mi_wsX4_laidTree_wsX4_laidTree_r3 (gk_c mi_wsX4_laidTree_wsX4_laidTree_r4 (gk_c mi_wsX4_laidTree_wsX20 (gk_c mi_wsX4_laidTree_wsX00 (gk_c mi_wsX4_laidTree_wsX30 gk_n)))))))))))))) rfl (by decide +kernel)
set_option maxRecDepth 20000 in
theorem gX4_laidTree_X2_renew : GoodIn wsX4_laidTree (wsV RX4 87 RX2 yX2_renew wsX2_renew) := goodIn_app (goodIn_k _ [(wsX4_laidTree_r2, [0, 1, 2]), (wsX4_laidTree_r1, [9])] (gk_c mi_wsX4_laidTree_wsX4_laidTree_r2 (gk_c mi_wsX4_laidTree_wsX4_laidTree_r1 gk_n)) rfl (by decide +kernel)) ggX4_laidTree_X2_renew
def dt_cX4_laidTree_0 : List (Nat × Instr × Nat) := [(0, .aload_n 0, 1), (1, .getfield 53, 3), (4, .ifCond .eq 42, 3), (7, .aload_n 0, 1), (8, .getfield 21, 3), (11, .invokevirtual 259, 3), (14, .aload_n 0, 1), (15, .getfield 21, 3), (18, .aload_n 0, 1), (19, .getfield 49, 3), (22, .putfield 204, 3), (25, .aload_n 0, 1), (26, .getfield 21, 3), (29, .iconst 0, 1), (30, .aload_n 0, 1), (31, .getfield 12, 3), (34, .getfield 57, 3), (37, .invokevirtual 87, 3), (40, .pop, 1), (41, .aload_n 0, 1), (42, .iconst 0, 1), (43, .putfield 53, 3), (46, .aload_n 0, 1), (47, .getfield 21, 3), (50, .areturn, 1)]
theorem da_cX4_laidTree_0 : dk_all cX4_laidTree dt_cX4_laidTree_0 = true := by decide +kernel
theorem dX4_laidTree_0 : decode cX4_laidTree 0 = .ok (.aload_n 0, 1) := dk_get _ da_cX4_laidTree_0 0 _ _ _ rfl
theorem dX4_laidTree_1 : decode cX4_laidTree 1 = .ok (.getfield 53, 3) := dk_get _ da_cX4_laidTree_0 1 _ _ _ rfl
theorem dX4_laidTree_4 : decode cX4_laidTree 4 = .ok (.ifCond .eq 42, 3) := dk_get _ da_cX4_laidTree_0 2 _ _ _ rfl
theorem dX4_laidTree_7 : decode cX4_laidTree 7 = .ok (.aload_n 0, 1) := dk_get _ da_cX4_laidTree_0 3 _ _ _ rfl
theorem dX4_laidTree_8 : decode cX4_laidTree 8 = .ok (.getfield 21, 3) := dk_get _ da_cX4_laidTree_0 4 _ _ _ rfl
theorem dX4_laidTree_11 : decode cX4_laidTree 11 = .ok (.invokevirtual 259, 3) := dk_get _ da_cX4_laidTree_0 5 _ _ _ rfl
theorem dX4_laidTree_14 : decode cX4_laidTree 14 = .ok (.aload_n 0, 1) := dk_get _ da_cX4_laidTree_0 6 _ _ _ rfl
theorem dX4_laidTree_15 : decode cX4_laidTree 15 = .ok (.getfield 21, 3) := dk_get _ da_cX4_laidTree_0 7 _ _ _ rfl
theorem dX4_laidTree_18 : decode cX4_laidTree 18 = .ok (.aload_n 0, 1) := dk_get _ da_cX4_laidTree_0 8 _ _ _ rfl
theorem dX4_laidTree_19 : decode cX4_laidTree 19 = .ok (.getfield 49, 3) := dk_get _ da_cX4_laidTree_0 9 _ _ _ rfl
theorem dX4_laidTree_22 : decode cX4_laidTree 22 = .ok (.putfield 204, 3) := dk_get _ da_cX4_laidTree_0 10 _ _ _ rfl
theorem dX4_laidTree_25 : decode cX4_laidTree 25 = .ok (.aload_n 0, 1) := dk_get _ da_cX4_laidTree_0 11 _ _ _ rfl
theorem dX4_laidTree_26 : decode cX4_laidTree 26 = .ok (.getfield 21, 3) := dk_get _ da_cX4_laidTree_0 12 _ _ _ rfl
theorem dX4_laidTree_29 : decode cX4_laidTree 29 = .ok (.iconst 0, 1) := dk_get _ da_cX4_laidTree_0 13 _ _ _ rfl
theorem dX4_laidTree_30 : decode cX4_laidTree 30 = .ok (.aload_n 0, 1) := dk_get _ da_cX4_laidTree_0 14 _ _ _ rfl
theorem dX4_laidTree_31 : decode cX4_laidTree 31 = .ok (.getfield 12, 3) := dk_get _ da_cX4_laidTree_0 15 _ _ _ rfl
theorem dX4_laidTree_34 : decode cX4_laidTree 34 = .ok (.getfield 57, 3) := dk_get _ da_cX4_laidTree_0 16 _ _ _ rfl
theorem dX4_laidTree_37 : decode cX4_laidTree 37 = .ok (.invokevirtual 87, 3) := dk_get _ da_cX4_laidTree_0 17 _ _ _ rfl
theorem dX4_laidTree_40 : decode cX4_laidTree 40 = .ok (.pop, 1) := dk_get _ da_cX4_laidTree_0 18 _ _ _ rfl
theorem dX4_laidTree_41 : decode cX4_laidTree 41 = .ok (.aload_n 0, 1) := dk_get _ da_cX4_laidTree_0 19 _ _ _ rfl
theorem dX4_laidTree_42 : decode cX4_laidTree 42 = .ok (.iconst 0, 1) := dk_get _ da_cX4_laidTree_0 20 _ _ _ rfl
theorem dX4_laidTree_43 : decode cX4_laidTree 43 = .ok (.putfield 53, 3) := dk_get _ da_cX4_laidTree_0 21 _ _ _ rfl
theorem dX4_laidTree_46 : decode cX4_laidTree 46 = .ok (.aload_n 0, 1) := dk_get _ da_cX4_laidTree_0 22 _ _ _ rfl
theorem dX4_laidTree_47 : decode cX4_laidTree 47 = .ok (.getfield 21, 3) := dk_get _ da_cX4_laidTree_0 23 _ _ _ rfl
theorem dX4_laidTree_50 : decode cX4_laidTree 50 = .ok (.areturn, 1) := dk_get _ da_cX4_laidTree_0 24 _ _ _ rfl

