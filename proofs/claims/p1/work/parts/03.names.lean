def RX0 : String := "MajorityIndex$Row"
def TX0 : u_T := fun k => match k with
  | 0 => ("MajorityIndex$Row", "cell", "[I", true)
  | _ => ("MajorityIndex$Row", "length", "I", false)
def tyX0 : Nat → FieldType := fun k => match k with
  | 0 => .array .int
  | _ => .int
abbrev wsX00 : List Cond := u_ws RX0 TX0 2
theorem nmX0 : ∀ a, a < 2 → ∀ b, b < 2 → a ≠ b → (TX0 a).2.1 ≠ (TX0 b).2.1 := by decide +kernel
theorem tyX0_ok : ∀ k, k < 2 → parseFieldDescriptor (TX0 k).2.2.1 = some (tyX0 k) := by decide +kernel
abbrev cX0_hasPlace : ByteArray := prog_2_method_2_code
def yX0_hasPlace : MethodName := ⟨RX0, "hasPlace", "(I)Z"⟩
abbrev cX0_hasRange : ByteArray := prog_2_method_3_code
def yX0_hasRange : MethodName := ⟨RX0, "hasRange", "(II)Z"⟩
abbrev cX0_append : ByteArray := prog_2_method_4_code
def yX0_append : MethodName := ⟨RX0, "append", "(I)V"⟩
abbrev cX0_putIn : ByteArray := prog_2_method_5_code
def yX0_putIn : MethodName := ⟨RX0, "putIn", "(II)V"⟩
abbrev cX0_takeOut : ByteArray := prog_2_method_6_code
def yX0_takeOut : MethodName := ⟨RX0, "takeOut", "(I)I"⟩
abbrev cX0_exchange : ByteArray := prog_2_method_7_code
def yX0_exchange : MethodName := ⟨RX0, "exchange", "(II)V"⟩
abbrev cX0_oftenIn : ByteArray := prog_2_method_8_code
def yX0_oftenIn : MethodName := ⟨RX0, "oftenIn", "(III)I"⟩
abbrev cX0_firstLike : ByteArray := prog_2_method_9_code
def yX0_firstLike : MethodName := ⟨RX0, "firstLike", "(I)I"⟩
abbrev cX0_leader : ByteArray := prog_2_method_10_code
def yX0_leader : MethodName := ⟨RX0, "leader", "(II)I"⟩
def RX1 : String := "MajorityIndex$Tally"
def TX1 : u_T := fun k => match k with
  | 0 => ("MajorityIndex$Tally", "kind", "[I", true)
  | 1 => ("MajorityIndex$Tally", "often", "[I", true)
  | 2 => ("MajorityIndex$Tally", "taken", "I", false)
  | _ => ("MajorityIndex$Tally", "most", "I", false)
abbrev wsX10 : List Cond := u_ws RX1 TX1 4
abbrev cX1_learn : ByteArray := prog_3_method_2_code
def yX1_learn : MethodName := ⟨RX1, "learn", "(LMajorityIndex$Row;)V"⟩
abbrev cX1_clear : ByteArray := prog_3_method_3_code
def yX1_clear : MethodName := ⟨RX1, "clear", "()V"⟩
abbrev cX1_take : ByteArray := prog_3_method_4_code
def yX1_take : MethodName := ⟨RX1, "take", "(I)V"⟩
abbrev cX1_drop : ByteArray := prog_3_method_5_code
def yX1_drop : MethodName := ⟨RX1, "drop", "(I)V"⟩
abbrev cX1_hasMajority : ByteArray := prog_3_method_6_code
def yX1_hasMajority : MethodName := ⟨RX1, "hasMajority", "()Z"⟩
def RX2 : String := "MajorityIndex$Tree"
def TX2 : u_T := fun k => match k with
  | 0 => ("MajorityIndex$Tree", "row", "LMajorityIndex$Row;", true)
  | 1 => ("MajorityIndex$Tree", "joined", "LMajorityIndex$Votes;", true)
  | 2 => ("MajorityIndex$Tree", "from", "[I", true)
  | 3 => ("MajorityIndex$Tree", "to", "[I", true)
  | 4 => ("MajorityIndex$Tree", "size", "[I", true)
  | 5 => ("MajorityIndex$Tree", "lossOf", "[I", true)
  | 6 => ("MajorityIndex$Tree", "lessBy", "[I", true)
  | 7 => ("MajorityIndex$Tree", "value", "[I", true)
  | 8 => ("MajorityIndex$Tree", "number", "[I", true)
  | 9 => ("MajorityIndex$Tree", "nodes", "I", false)
  | _ => ("MajorityIndex$Tree", "slotsHere", "I", false)
def tyX2 : Nat → FieldType := fun k => match k with
  | 0 => .object "MajorityIndex$Row"
  | 1 => .object "MajorityIndex$Votes"
  | 2 => .array .int
  | 3 => .array .int
  | 4 => .array .int
  | 5 => .array .int
  | 6 => .array .int
  | 7 => .array .int
  | 8 => .array .int
  | 9 => .int
  | _ => .int
abbrev wsX20 : List Cond := u_ws RX2 TX2 11
theorem nmX2 : ∀ a, a < 11 → ∀ b, b < 11 → a ≠ b → (TX2 a).2.1 ≠ (TX2 b).2.1 := by decide +kernel
theorem tyX2_ok : ∀ k, k < 11 → parseFieldDescriptor (TX2 k).2.2.1 = some (tyX2 k) := by decide +kernel
abbrev cX2_layRanges : ByteArray := prog_4_method_2_code
def yX2_layRanges : MethodName := ⟨RX2, "layRanges", "()V"⟩
abbrev cX2_layBelow : ByteArray := prog_4_method_3_code
def yX2_layBelow : MethodName := ⟨RX2, "layBelow", "(I)V"⟩
abbrev cX2_rightBelow : ByteArray := prog_4_method_4_code
def yX2_rightBelow : MethodName := ⟨RX2, "rightBelow", "(I)I"⟩
abbrev cX2_renew : ByteArray := prog_4_method_5_code
def yX2_renew : MethodName := ⟨RX2, "renew", "(II)I"⟩
abbrev cX2_putTogether : ByteArray := prog_4_method_6_code
def yX2_putTogether : MethodName := ⟨RX2, "putTogether", "(I)V"⟩
abbrev cX2_joinNode : ByteArray := prog_4_method_7_code
def yX2_joinNode : MethodName := ⟨RX2, "joinNode", "(LMajorityIndex$Votes;I)V"⟩
abbrev cX2_isJoined : ByteArray := prog_4_method_8_code
def yX2_isJoined : MethodName := ⟨RX2, "isJoined", "(I)Z"⟩
abbrev cX2_keepJoined : ByteArray := prog_4_method_9_code
def yX2_keepJoined : MethodName := ⟨RX2, "keepJoined", "(I)V"⟩
abbrev cX2_copyTo : ByteArray := prog_4_method_10_code
def yX2_copyTo : MethodName := ⟨RX2, "copyTo", "(LMajorityIndex$Votes;I)V"⟩
abbrev cX2_find : ByteArray := prog_4_method_11_code
def yX2_find : MethodName := ⟨RX2, "find", "(II)I"⟩
abbrev cX2_isPart : ByteArray := prog_4_method_12_code
def yX2_isPart : MethodName := ⟨RX2, "isPart", "(III)Z"⟩
abbrev cX2_gather : ByteArray := prog_4_method_13_code
def yX2_gather : MethodName := ⟨RX2, "gather", "(LMajorityIndex$Votes;II)V"⟩
abbrev cX2_hasPlace : ByteArray := prog_4_method_14_code
def yX2_hasPlace : MethodName := ⟨RX2, "hasPlace", "(II)Z"⟩
abbrev cX2_depthAt : ByteArray := prog_4_method_15_code
def yX2_depthAt : MethodName := ⟨RX2, "depthAt", "(I)I"⟩
abbrev cX2_onPath : ByteArray := prog_4_method_16_code
def yX2_onPath : MethodName := ⟨RX2, "onPath", "(II)I"⟩
abbrev cX2_numberIn : ByteArray := prog_4_method_17_code
def yX2_numberIn : MethodName := ⟨RX2, "numberIn", "(II)I"⟩
abbrev cX2_holding : ByteArray := prog_4_method_18_code
def yX2_holding : MethodName := ⟨RX2, "holding", "(I)I"⟩
abbrev cX2_nodesWithMajority : ByteArray := prog_4_method_19_code
def yX2_nodesWithMajority : MethodName := ⟨RX2, "nodesWithMajority", "()I"⟩
abbrev cX2_deepest : ByteArray := prog_4_method_20_code
def yX2_deepest : MethodName := ⟨RX2, "deepest", "()I"⟩
abbrev cX2_allLosses : ByteArray := prog_4_method_21_code
def yX2_allLosses : MethodName := ⟨RX2, "allLosses", "()I"⟩
def RX3 : String := "MajorityIndex$Votes"
def TX3 : u_T := fun k => match k with
  | 0 => ("MajorityIndex$Votes", "value", "[I", true)
  | 1 => ("MajorityIndex$Votes", "number", "[I", true)
  | 2 => ("MajorityIndex$Votes", "size", "I", false)
  | 3 => ("MajorityIndex$Votes", "lost", "I", false)
  | _ => ("MajorityIndex$Votes", "lessBy", "I", false)
abbrev wsX30 : List Cond := u_ws RX3 TX3 5
abbrev cX3_clear : ByteArray := prog_5_method_2_code
def yX3_clear : MethodName := ⟨RX3, "clear", "()V"⟩
abbrev cX3_add : ByteArray := prog_5_method_3_code
def yX3_add : MethodName := ⟨RX3, "add", "(II)V"⟩
abbrev cX3_join : ByteArray := prog_5_method_4_code
def yX3_join : MethodName := ⟨RX3, "join", "(LMajorityIndex$Votes;)V"⟩
abbrev cX3_cancel : ByteArray := prog_5_method_5_code
def yX3_cancel : MethodName := ⟨RX3, "cancel", "(I)V"⟩
abbrev cX3_order : ByteArray := prog_5_method_6_code
def yX3_order : MethodName := ⟨RX3, "order", "()V"⟩
abbrev cX3_keepHeavy : ByteArray := prog_5_method_7_code
def yX3_keepHeavy : MethodName := ⟨RX3, "keepHeavy", "(III)V"⟩
abbrev cX3_numberOf : ByteArray := prog_5_method_8_code
def yX3_numberOf : MethodName := ⟨RX3, "numberOf", "(I)I"⟩
abbrev cX3_total : ByteArray := prog_5_method_9_code
def yX3_total : MethodName := ⟨RX3, "total", "()I"⟩
abbrev cX3_isAhead : ByteArray := prog_5_method_10_code
def yX3_isAhead : MethodName := ⟨RX3, "isAhead", "(II)Z"⟩
abbrev cX3_exchange : ByteArray := prog_5_method_11_code
def yX3_exchange : MethodName := ⟨RX3, "exchange", "(II)V"⟩
def RX4 : String := "MajorityIndex"
def TX4 : u_T := fun k => match k with
  | 0 => ("MajorityIndex", "row", "LMajorityIndex$Row;", true)
  | 1 => ("MajorityIndex", "tree", "LMajorityIndex$Tree;", true)
  | 2 => ("MajorityIndex", "tally", "LMajorityIndex$Tally;", true)
  | 3 => ("MajorityIndex", "votes", "LMajorityIndex$Votes;", true)
  | 4 => ("MajorityIndex", "otherVotes", "LMajorityIndex$Votes;", true)
  | 5 => ("MajorityIndex", "wins", "[I", true)
  | 6 => ("MajorityIndex", "fewest", "[I", true)
  | 7 => ("MajorityIndex", "slotsNow", "I", false)
  | _ => ("MajorityIndex", "treeIsOld", "Z", false)
def tyX4 : Nat → FieldType := fun k => match k with
  | 0 => .object "MajorityIndex$Row"
  | 1 => .object "MajorityIndex$Tree"
  | 2 => .object "MajorityIndex$Tally"
  | 3 => .object "MajorityIndex$Votes"
  | 4 => .object "MajorityIndex$Votes"
  | 5 => .array .int
  | 6 => .array .int
  | 7 => .int
  | _ => .boolean
abbrev wsX40 : List Cond := u_ws RX4 TX4 9
theorem nmX4 : ∀ a, a < 9 → ∀ b, b < 9 → a ≠ b → (TX4 a).2.1 ≠ (TX4 b).2.1 := by decide +kernel
theorem tyX4_ok : ∀ k, k < 9 → parseFieldDescriptor (TX4 k).2.2.1 = some (tyX4 k) := by decide +kernel
abbrev cX4_feed : ByteArray := prog_1_method_2_code
def yX4_feed : MethodName := ⟨RX4, "feed", "(II)I"⟩
abbrev cX4_end : ByteArray := prog_1_method_3_code
def yX4_end : MethodName := ⟨RX4, "end", "(I)I"⟩
abbrev cX4_slots : ByteArray := prog_1_method_4_code
def yX4_slots : MethodName := ⟨RX4, "slots", "(I)I"⟩
abbrev cX4_set : ByteArray := prog_1_method_5_code
def yX4_set : MethodName := ⟨RX4, "set", "(II)I"⟩
abbrev cX4_fill : ByteArray := prog_1_method_6_code
def yX4_fill : MethodName := ⟨RX4, "fill", "(III)I"⟩
abbrev cX4_turn : ByteArray := prog_1_method_7_code
def yX4_turn : MethodName := ⟨RX4, "turn", "(II)I"⟩
abbrev cX4_swap : ByteArray := prog_1_method_8_code
def yX4_swap : MethodName := ⟨RX4, "swap", "(II)I"⟩
abbrev cX4_insert : ByteArray := prog_1_method_9_code
def yX4_insert : MethodName := ⟨RX4, "insert", "(II)I"⟩
abbrev cX4_remove : ByteArray := prog_1_method_10_code
def yX4_remove : MethodName := ⟨RX4, "remove", "(I)I"⟩
abbrev cX4_count : ByteArray := prog_1_method_12_code
def yX4_count : MethodName := ⟨RX4, "count", "(III)I"⟩
abbrev cX4_place : ByteArray := prog_1_method_13_code
def yX4_place : MethodName := ⟨RX4, "place", "(II)I"⟩
abbrev cX4_values : ByteArray := prog_1_method_14_code
def yX4_values : MethodName := ⟨RX4, "values", "()I"⟩
abbrev cX4_node : ByteArray := prog_1_method_15_code
def yX4_node : MethodName := ⟨RX4, "node", "(II)I"⟩
abbrev cX4_loss : ByteArray := prog_1_method_17_code
def yX4_loss : MethodName := ⟨RX4, "loss", "(II)I"⟩
abbrev cX4_cancelled : ByteArray := prog_1_method_18_code
def yX4_cancelled : MethodName := ⟨RX4, "cancelled", "(II)I"⟩
abbrev cX4_above : ByteArray := prog_1_method_19_code
def yX4_above : MethodName := ⟨RX4, "above", "(III)I"⟩
abbrev cX4_holds : ByteArray := prog_1_method_20_code
def yX4_holds : MethodName := ⟨RX4, "holds", "(I)I"⟩
abbrev cX4_parts : ByteArray := prog_1_method_21_code
def yX4_parts : MethodName := ⟨RX4, "parts", "(II)I"⟩
abbrev cX4_part : ByteArray := prog_1_method_22_code
def yX4_part : MethodName := ⟨RX4, "part", "(IIII)I"⟩
abbrev cX4_summary : ByteArray := prog_1_method_23_code
def yX4_summary : MethodName := ⟨RX4, "summary", "(III)I"⟩
abbrev cX4_lost : ByteArray := prog_1_method_25_code
def yX4_lost : MethodName := ⟨RX4, "lost", "(III)I"⟩
abbrev cX4_surely : ByteArray := prog_1_method_26_code
def yX4_surely : MethodName := ⟨RX4, "surely", "(II)I"⟩
abbrev cX4_heavy : ByteArray := prog_1_method_27_code
def yX4_heavy : MethodName := ⟨RX4, "heavy", "(IIII)I"⟩
abbrev cX4_failed : ByteArray := prog_1_method_29_code
def yX4_failed : MethodName := ⟨RX4, "failed", "(IIII)I"⟩
abbrev cX4_least : ByteArray := prog_1_method_30_code
def yX4_least : MethodName := ⟨RX4, "least", "(IIII)I"⟩
abbrev cX4_majority : ByteArray := prog_1_method_31_code
def yX4_majority : MethodName := ⟨RX4, "majority", "(II)I"⟩
abbrev cX4_margin : ByteArray := prog_1_method_32_code
def yX4_margin : MethodName := ⟨RX4, "margin", "(III)I"⟩
abbrev cX4_both : ByteArray := prog_1_method_33_code
def yX4_both : MethodName := ⟨RX4, "both", "(IIIIII)I"⟩
abbrev cX4_bothAt : ByteArray := prog_1_method_34_code
def yX4_bothAt : MethodName := ⟨RX4, "bothAt", "(IIIIIII)I"⟩
abbrev cX4_longest : ByteArray := prog_1_method_35_code
def yX4_longest : MethodName := ⟨RX4, "longest", "(IIII)I"⟩
abbrev cX4_reach : ByteArray := prog_1_method_36_code
def yX4_reach : MethodName := ⟨RX4, "reach", "(I)I"⟩
abbrev cX4_parted : ByteArray := prog_1_method_37_code
def yX4_parted : MethodName := ⟨RX4, "parted", "(II)I"⟩
abbrev cX4_cut : ByteArray := prog_1_method_38_code
def yX4_cut : MethodName := ⟨RX4, "cut", "(II)I"⟩
abbrev cX4_majorities : ByteArray := prog_1_method_39_code
def yX4_majorities : MethodName := ⟨RX4, "majorities", "()I"⟩
abbrev cX4_windows : ByteArray := prog_1_method_40_code
def yX4_windows : MethodName := ⟨RX4, "windows", "(IIII)I"⟩
abbrev cX4_needs : ByteArray := prog_1_method_41_code
def yX4_needs : MethodName := ⟨RX4, "needs", "(IIIII)I"⟩
abbrev cX4_spares : ByteArray := prog_1_method_42_code
def yX4_spares : MethodName := ⟨RX4, "spares", "(IIIII)I"⟩
abbrev cX4_would : ByteArray := prog_1_method_43_code
def yX4_would : MethodName := ⟨RX4, "would", "(IIII)I"⟩
abbrev cX4_swings : ByteArray := prog_1_method_44_code
def yX4_swings : MethodName := ⟨RX4, "swings", "(IIII)I"⟩
abbrev cX4_told : ByteArray := prog_1_method_45_code
def yX4_told : MethodName := ⟨RX4, "told", "(I)I"⟩
abbrev cX4_isValue : ByteArray := prog_1_method_46_code
def yX4_isValue : MethodName := ⟨RX4, "isValue", "(I)Z"⟩
abbrev cX4_isShare : ByteArray := prog_1_method_47_code
def yX4_isShare : MethodName := ⟨RX4, "isShare", "(II)Z"⟩
abbrev cX4_isHeavy : ByteArray := prog_1_method_48_code
def yX4_isHeavy : MethodName := ⟨RX4, "isHeavy", "(IIII)Z"⟩
abbrev cX4_isEnough : ByteArray := prog_1_method_49_code
def yX4_isEnough : MethodName := ⟨RX4, "isEnough", "(II)Z"⟩
abbrev cX4_mostWithoutHeavy : ByteArray := prog_1_method_50_code
def yX4_mostWithoutHeavy : MethodName := ⟨RX4, "mostWithoutHeavy", "(III)I"⟩
abbrev cX4_laidTree : ByteArray := prog_1_method_51_code
def yX4_laidTree : MethodName := ⟨RX4, "laidTree", "()LMajorityIndex$Tree;"⟩
abbrev cX4_overwrite : ByteArray := prog_1_method_52_code
def yX4_overwrite : MethodName := ⟨RX4, "overwrite", "(LMajorityIndex$Tree;III)I"⟩
abbrev cX4_gatherHeavy : ByteArray := prog_1_method_53_code
def yX4_gatherHeavy : MethodName := ⟨RX4, "gatherHeavy", "(LMajorityIndex$Tree;IIII)V"⟩
abbrev cX4_refusalOfBoth : ByteArray := prog_1_method_54_code
def yX4_refusalOfBoth : MethodName := ⟨RX4, "refusalOfBoth", "(IIIIII)I"⟩
abbrev cX4_gatherHeavyOfBoth : ByteArray := prog_1_method_55_code
def yX4_gatherHeavyOfBoth : MethodName := ⟨RX4, "gatherHeavyOfBoth", "(LMajorityIndex$Tree;IIIIII)V"⟩
abbrev cX4_heavyValues : ByteArray := prog_1_method_56_code
def yX4_heavyValues : MethodName := ⟨RX4, "heavyValues", "(IIII)I"⟩
abbrev cX4_heavyVotesBy : ByteArray := prog_1_method_57_code
def yX4_heavyVotesBy : MethodName := ⟨RX4, "heavyVotesBy", "(LMajorityIndex$Tree;IIIII)I"⟩
abbrev cX4_farthestHeavy : ByteArray := prog_1_method_58_code
def yX4_farthestHeavy : MethodName := ⟨RX4, "farthestHeavy", "(IIII)I"⟩
abbrev cX4_slideWindow : ByteArray := prog_1_method_59_code
def yX4_slideWindow : MethodName := ⟨RX4, "slideWindow", "(III)I"⟩
abbrev cX4_creditHeavy : ByteArray := prog_1_method_60_code
def yX4_creditHeavy : MethodName := ⟨RX4, "creditHeavy", "(III)Z"⟩
abbrev cX4_kindOfMostWins : ByteArray := prog_1_method_61_code
def yX4_kindOfMostWins : MethodName := ⟨RX4, "kindOfMostWins", "()I"⟩
abbrev cX4_rootTotalWith : ByteArray := prog_1_method_62_code
def yX4_rootTotalWith : MethodName := ⟨RX4, "rootTotalWith", "(LMajorityIndex$Tree;II)I"⟩
def RX5 : String := "MajorityIndexModel"
def TX5 : u_T := fun k => match k with
  | 0 => ("MajorityIndexModel", "row", "[I", true)
  | 1 => ("MajorityIndexModel", "n", "I", false)
  | 2 => ("MajorityIndexModel", "slots", "I", false)
  | 3 => ("MajorityIndexModel", "thrown", "I", false)
  | 4 => ("MajorityIndexModel", "many", "[I", true)
  | 5 => ("MajorityIndexModel", "loss", "[I", true)
  | 6 => ("MajorityIndexModel", "less", "[I", true)
  | 7 => ("MajorityIndexModel", "voteValue", "[I", true)
  | 8 => ("MajorityIndexModel", "voteNumber", "[I", true)
  | 9 => ("MajorityIndexModel", "allValue", "[I", true)
  | 10 => ("MajorityIndexModel", "allNumber", "[I", true)
  | 11 => ("MajorityIndexModel", "allMany", "I", false)
  | 12 => ("MajorityIndexModel", "nodeL", "[I", true)
  | 13 => ("MajorityIndexModel", "nodeR", "[I", true)
  | 14 => ("MajorityIndexModel", "nodes", "I", false)
  | 15 => ("MajorityIndexModel", "part", "[I", true)
  | 16 => ("MajorityIndexModel", "partMany", "I", false)
  | 17 => ("MajorityIndexModel", "wasMany", "[I", true)
  | 18 => ("MajorityIndexModel", "wasLoss", "[I", true)
  | 19 => ("MajorityIndexModel", "wasValue", "[I", true)
  | 20 => ("MajorityIndexModel", "wasNumber", "[I", true)
  | 21 => ("MajorityIndexModel", "path", "[I", true)
  | 22 => ("MajorityIndexModel", "pathMany", "I", false)
  | 23 => ("MajorityIndexModel", "heavyValue", "[I", true)
  | 24 => ("MajorityIndexModel", "heavyTimes", "[I", true)
  | 25 => ("MajorityIndexModel", "heavyMany", "I", false)
  | 26 => ("MajorityIndexModel", "fewest", "[I", true)
  | 27 => ("MajorityIndexModel", "which", "[I", true)
  | 28 => ("MajorityIndexModel", "met", "[I", true)
  | _ => ("MajorityIndexModel", "mostMet", "I", false)
abbrev cX5_within : ByteArray := prog_7_method_3_code
def yX5_within : MethodName := ⟨RX5, "within", "(III)Z"⟩
abbrev cX5_isValue : ByteArray := prog_7_method_4_code
def yX5_isValue : MethodName := ⟨RX5, "isValue", "(I)Z"⟩
abbrev cX5_isShare : ByteArray := prog_7_method_7_code
def yX5_isShare : MethodName := ⟨RX5, "isShare", "(II)Z"⟩
def RJ7 : String := "java/util/Arrays"
abbrev cJ7_fill_53178 : ByteArray := prog_13_method_103_code
def yJ7_fill_53178 : MethodName := ⟨RJ7, "fill", "([II)V"⟩
def wsX0_hasPlace : List Cond := .code yX0_hasPlace cX0_hasPlace 2 (some .boolean) :: ([.fieldLink RX0 15 "MajorityIndex$Row" "length" "I"] ++ wsX00)
def wsX0_hasRange : List Cond := .code yX0_hasRange cX0_hasRange 3 (some .boolean) :: ([.fieldLink RX0 15 "MajorityIndex$Row" "length" "I"] ++ wsX00)
def wsX0_append : List Cond := .code yX0_append cX0_append 2 none :: ([.fieldLink RX0 15 "MajorityIndex$Row" "length" "I", .fieldLink RX0 9 "MajorityIndex$Row" "cell" "[I"] ++ wsX00)
def wsX0_putIn : List Cond := .code yX0_putIn cX0_putIn 4 none :: ([.fieldLink RX0 15 "MajorityIndex$Row" "length" "I", .fieldLink RX0 9 "MajorityIndex$Row" "cell" "[I"] ++ wsX00)
def wsX1_learn : List Cond := .code yX1_learn cX1_learn 3 none :: ([.fieldLink RX1 18 "MajorityIndex$Row" "length" "I", .fieldLink RX1 9 "MajorityIndex$Tally" "kind" "[I", .methodLink RX1 24 yX0_firstLike, .instanceMethod yX0_firstLike, .selects RX0 yX0_firstLike yX0_firstLike, .initialized RX0, .code yX0_firstLike cX0_firstLike 3 (some .int), .fieldLink RX0 9 "MajorityIndex$Row" "cell" "[I"] ++ wsX00 ++ wsX10)
def wsX2_layRanges : List Cond := .code yX2_layRanges cX2_layRanges 2 none :: ([.fieldLink RX2 40 "MajorityIndex$Tree" "row" "LMajorityIndex$Row;", .fieldLink RX2 44 "MajorityIndex$Row" "length" "I", .fieldLink RX2 50 "MajorityIndex$Tree" "nodes" "I", .fieldLink RX2 18 "MajorityIndex$Tree" "from" "[I", .fieldLink RX2 22 "MajorityIndex$Tree" "to" "[I", .methodLink RX2 53 yX2_layBelow, .instanceMethod yX2_layBelow, .selects RX2 yX2_layBelow yX2_layBelow, .initialized RX2, .code yX2_layBelow cX2_layBelow 4 none, .methodLink RX2 57 yX2_rightBelow, .instanceMethod yX2_rightBelow, .selects RX2 yX2_rightBelow yX2_rightBelow, .code yX2_rightBelow cX2_rightBelow 3 (some .int)] ++ wsX20 ++ wsX00)
def wsX2_renew_r1 : List Cond := [Cond.fieldLink RX2 50 "MajorityIndex$Tree" "nodes" "I", Cond.fieldLink RX2 18 "MajorityIndex$Tree" "from" "[I", Cond.fieldLink RX2 22 "MajorityIndex$Tree" "to" "[I", Cond.methodLink RX2 61 yX2_putTogether, Cond.instanceMethod yX2_putTogether, Cond.selects RX2 yX2_putTogether yX2_putTogether, Cond.initialized RX2, Cond.code yX2_putTogether cX2_putTogether 2 none, Cond.fieldLink RX2 12 "MajorityIndex$Tree" "joined" "LMajorityIndex$Votes;", Cond.fieldLink RX2 40 "MajorityIndex$Tree" "row" "LMajorityIndex$Row;", Cond.fieldLink RX2 74 "MajorityIndex$Row" "cell" "[I", Cond.fieldLink RX2 85 "MajorityIndex$Tree" "slotsHere" "I", Cond.methodLink RX2 71 yX3_clear, Cond.instanceMethod yX3_clear, Cond.selects RX3 yX3_clear yX3_clear, Cond.initialized RX3, Cond.code yX3_clear cX3_clear 1 none, Cond.fieldLink RX3 18 "MajorityIndex$Votes" "size" "I", Cond.fieldLink RX3 22 "MajorityIndex$Votes" "lost" "I", Cond.fieldLink RX3 25 "MajorityIndex$Votes" "lessBy" "I", Cond.methodLink RX2 77 yX3_add, Cond.instanceMethod yX3_add, Cond.selects RX3 yX3_add yX3_add, Cond.code yX3_add cX3_add 4 none]
def wsX2_renew_r2 : List Cond := [Cond.fieldLink RX3 9 "MajorityIndex$Votes" "value" "[I", Cond.fieldLink RX3 15 "MajorityIndex$Votes" "number" "[I", Cond.methodLink RX2 81 yX2_joinNode, Cond.instanceMethod yX2_joinNode, Cond.selects RX2 yX2_joinNode yX2_joinNode, Cond.code yX2_joinNode cX2_joinNode 5 none, Cond.fieldLink RX2 25 "MajorityIndex$Tree" "size" "[I", Cond.fieldLink RX2 34 "MajorityIndex$Tree" "value" "[I", Cond.fieldLink RX2 37 "MajorityIndex$Tree" "number" "[I", Cond.fieldLink RX2 91 "MajorityIndex$Votes" "lost" "I", Cond.fieldLink RX2 28 "MajorityIndex$Tree" "lossOf" "[I", Cond.methodLink RX2 57 yX2_rightBelow, Cond.instanceMethod yX2_rightBelow, Cond.selects RX2 yX2_rightBelow yX2_rightBelow, Cond.code yX2_rightBelow cX2_rightBelow 3 (some .int), Cond.methodLink RX2 88 yX3_cancel, Cond.instanceMethod yX3_cancel, Cond.selects RX3 yX3_cancel yX3_cancel, Cond.code yX3_cancel cX3_cancel 4 none, Cond.methodLink RX3 32 yX3_order, Cond.instanceMethod yX3_order, Cond.selects RX3 yX3_order yX3_order, Cond.code yX3_order cX3_order 3 none, Cond.methodLink RX3 35 yX3_isAhead]
def wsX2_renew_r3 : List Cond := [Cond.instanceMethod yX3_isAhead, Cond.selects RX3 yX3_isAhead yX3_isAhead, Cond.code yX3_isAhead cX3_isAhead 3 (some .boolean), Cond.methodLink RX3 39 yX3_exchange, Cond.instanceMethod yX3_exchange, Cond.selects RX3 yX3_exchange yX3_exchange, Cond.code yX3_exchange cX3_exchange 5 none, Cond.methodLink RX2 64 yX2_isJoined, Cond.instanceMethod yX2_isJoined, Cond.selects RX2 yX2_isJoined yX2_isJoined, Cond.code yX2_isJoined cX2_isJoined 4 (some .boolean), Cond.fieldLink RX2 94 "MajorityIndex$Votes" "size" "I", Cond.fieldLink RX2 96 "MajorityIndex$Votes" "value" "[I", Cond.fieldLink RX2 97 "MajorityIndex$Votes" "number" "[I", Cond.methodLink RX2 68 yX2_keepJoined, Cond.instanceMethod yX2_keepJoined, Cond.selects RX2 yX2_keepJoined yX2_keepJoined, Cond.code yX2_keepJoined cX2_keepJoined 4 none, Cond.methodLink RX2 98 Lib.Math.min.name, Cond.static Lib.Math.min.name, Cond.initialized "java/lang/Math", Cond.code Lib.Math.min.name Lib.Math.min.code 2 (some .int), Cond.fieldLink RX2 31 "MajorityIndex$Tree" "lessBy" "[I", Cond.fieldLink RX2 104 "MajorityIndex$Votes" "lessBy" "I"]
def wsX2_renew : List Cond := .code yX2_renew cX2_renew 5 (some .int) :: ((wsX2_renew_r1 ++ (wsX2_renew_r2 ++ wsX2_renew_r3)) ++ wsX20 ++ wsX00 ++ wsX30)
def wsX2_nodesWithMajority : List Cond := .code yX2_nodesWithMajority cX2_nodesWithMajority 3 (some .int) :: ([.fieldLink RX2 50 "MajorityIndex$Tree" "nodes" "I", .fieldLink RX2 40 "MajorityIndex$Tree" "row" "LMajorityIndex$Row;", .fieldLink RX2 18 "MajorityIndex$Tree" "from" "[I", .fieldLink RX2 22 "MajorityIndex$Tree" "to" "[I", .constant RX2 120 (-40000), .methodLink RX2 117 yX0_leader, .instanceMethod yX0_leader, .selects RX0 yX0_leader yX0_leader, .initialized RX0, .code yX0_leader cX0_leader 6 (some .int), .constant RX0 23 (-40000), .fieldLink RX0 9 "MajorityIndex$Row" "cell" "[I", .methodLink RX0 24 yX0_oftenIn, .instanceMethod yX0_oftenIn, .selects RX0 yX0_oftenIn yX0_oftenIn, .code yX0_oftenIn cX0_oftenIn 6 (some .int), .static yX4_isHeavy, .initialized RX4, .code yX4_isHeavy cX4_isHeavy 4 (some .boolean)] ++ wsX20 ++ wsX00)
def wsX2_deepest : List Cond := .code yX2_deepest cX2_deepest 3 (some .int) :: ([.fieldLink RX2 50 "MajorityIndex$Tree" "nodes" "I", .fieldLink RX2 40 "MajorityIndex$Tree" "row" "LMajorityIndex$Row;", .fieldLink RX2 44 "MajorityIndex$Row" "length" "I"] ++ wsX20 ++ wsX00)
def wsX2_allLosses : List Cond := .code yX2_allLosses cX2_allLosses 3 (some .int) :: ([.fieldLink RX2 50 "MajorityIndex$Tree" "nodes" "I", .fieldLink RX2 28 "MajorityIndex$Tree" "lossOf" "[I"] ++ wsX20)
def wsX4_feed : List Cond := .code yX4_feed cX4_feed 3 (some .int) :: ([.fieldLink RX4 12 "MajorityIndex" "row" "LMajorityIndex$Row;", .fieldLink RX4 57 "MajorityIndex$Row" "length" "I", .fieldLink RX4 53 "MajorityIndex" "treeIsOld" "Z", .methodLink RX4 60 yX0_append, .instanceMethod yX0_append, .selects RX0 yX0_append yX0_append, .initialized RX0, .code yX0_append cX0_append 2 none, .fieldLink RX0 15 "MajorityIndex$Row" "length" "I", .fieldLink RX0 9 "MajorityIndex$Row" "cell" "[I"] ++ wsX40 ++ wsX00)
def wsX4_end : List Cond := .code yX4_end cX4_end 2 (some .int) :: ([.fieldLink RX4 12 "MajorityIndex" "row" "LMajorityIndex$Row;", .fieldLink RX4 57 "MajorityIndex$Row" "length" "I", .fieldLink RX4 53 "MajorityIndex" "treeIsOld" "Z"] ++ wsX40 ++ wsX00)
def wsX4_slots : List Cond := .code yX4_slots cX4_slots 3 (some .int) :: ([.fieldLink RX4 49 "MajorityIndex" "slotsNow" "I", .fieldLink RX4 53 "MajorityIndex" "treeIsOld" "Z"] ++ wsX40)
def wsX4_isValue : List Cond := .code yX4_isValue cX4_isValue 1 (some .boolean) :: ([])
def wsX4_laidTree_r1 : List Cond := [Cond.fieldLink RX4 53 "MajorityIndex" "treeIsOld" "Z", Cond.fieldLink RX4 21 "MajorityIndex" "tree" "LMajorityIndex$Tree;", Cond.fieldLink RX4 49 "MajorityIndex" "slotsNow" "I", Cond.fieldLink RX4 204 "MajorityIndex$Tree" "slotsHere" "I", Cond.fieldLink RX4 12 "MajorityIndex" "row" "LMajorityIndex$Row;", Cond.fieldLink RX4 57 "MajorityIndex$Row" "length" "I", Cond.methodLink RX4 259 yX2_layRanges, Cond.instanceMethod yX2_layRanges, Cond.selects RX2 yX2_layRanges yX2_layRanges, Cond.initialized RX2, Cond.code yX2_layRanges cX2_layRanges 2 none, Cond.fieldLink RX2 40 "MajorityIndex$Tree" "row" "LMajorityIndex$Row;", Cond.fieldLink RX2 44 "MajorityIndex$Row" "length" "I", Cond.fieldLink RX2 50 "MajorityIndex$Tree" "nodes" "I", Cond.fieldLink RX2 18 "MajorityIndex$Tree" "from" "[I", Cond.fieldLink RX2 22 "MajorityIndex$Tree" "to" "[I", Cond.methodLink RX2 53 yX2_layBelow, Cond.instanceMethod yX2_layBelow, Cond.selects RX2 yX2_layBelow yX2_layBelow, Cond.code yX2_layBelow cX2_layBelow 4 none, Cond.methodLink RX2 57 yX2_rightBelow, Cond.instanceMethod yX2_rightBelow, Cond.selects RX2 yX2_rightBelow yX2_rightBelow, Cond.code yX2_rightBelow cX2_rightBelow 3 (some .int)]
def wsX4_laidTree_r2 : List Cond := [Cond.methodLink RX4 87 yX2_renew, Cond.instanceMethod yX2_renew, Cond.selects RX2 yX2_renew yX2_renew, Cond.code yX2_renew cX2_renew 5 (some .int), Cond.methodLink RX2 61 yX2_putTogether, Cond.instanceMethod yX2_putTogether, Cond.selects RX2 yX2_putTogether yX2_putTogether, Cond.code yX2_putTogether cX2_putTogether 2 none, Cond.fieldLink RX2 12 "MajorityIndex$Tree" "joined" "LMajorityIndex$Votes;", Cond.fieldLink RX2 74 "MajorityIndex$Row" "cell" "[I", Cond.fieldLink RX2 85 "MajorityIndex$Tree" "slotsHere" "I", Cond.methodLink RX2 71 yX3_clear, Cond.instanceMethod yX3_clear, Cond.selects RX3 yX3_clear yX3_clear, Cond.initialized RX3, Cond.code yX3_clear cX3_clear 1 none, Cond.fieldLink RX3 18 "MajorityIndex$Votes" "size" "I", Cond.fieldLink RX3 22 "MajorityIndex$Votes" "lost" "I", Cond.fieldLink RX3 25 "MajorityIndex$Votes" "lessBy" "I", Cond.methodLink RX2 77 yX3_add, Cond.instanceMethod yX3_add, Cond.selects RX3 yX3_add yX3_add, Cond.code yX3_add cX3_add 4 none, Cond.fieldLink RX3 9 "MajorityIndex$Votes" "value" "[I"]
def wsX4_laidTree_r3 : List Cond := [Cond.fieldLink RX3 15 "MajorityIndex$Votes" "number" "[I", Cond.methodLink RX2 81 yX2_joinNode, Cond.instanceMethod yX2_joinNode, Cond.selects RX2 yX2_joinNode yX2_joinNode, Cond.code yX2_joinNode cX2_joinNode 5 none, Cond.fieldLink RX2 25 "MajorityIndex$Tree" "size" "[I", Cond.fieldLink RX2 34 "MajorityIndex$Tree" "value" "[I", Cond.fieldLink RX2 37 "MajorityIndex$Tree" "number" "[I", Cond.fieldLink RX2 91 "MajorityIndex$Votes" "lost" "I", Cond.fieldLink RX2 28 "MajorityIndex$Tree" "lossOf" "[I", Cond.methodLink RX2 88 yX3_cancel, Cond.instanceMethod yX3_cancel, Cond.selects RX3 yX3_cancel yX3_cancel, Cond.code yX3_cancel cX3_cancel 4 none, Cond.methodLink RX3 32 yX3_order, Cond.instanceMethod yX3_order, Cond.selects RX3 yX3_order yX3_order, Cond.code yX3_order cX3_order 3 none, Cond.methodLink RX3 35 yX3_isAhead, Cond.instanceMethod yX3_isAhead, Cond.selects RX3 yX3_isAhead yX3_isAhead, Cond.code yX3_isAhead cX3_isAhead 3 (some .boolean), Cond.methodLink RX3 39 yX3_exchange, Cond.instanceMethod yX3_exchange]
def wsX4_laidTree_r4 : List Cond := [Cond.selects RX3 yX3_exchange yX3_exchange, Cond.code yX3_exchange cX3_exchange 5 none, Cond.methodLink RX2 64 yX2_isJoined, Cond.instanceMethod yX2_isJoined, Cond.selects RX2 yX2_isJoined yX2_isJoined, Cond.code yX2_isJoined cX2_isJoined 4 (some .boolean), Cond.fieldLink RX2 94 "MajorityIndex$Votes" "size" "I", Cond.fieldLink RX2 96 "MajorityIndex$Votes" "value" "[I", Cond.fieldLink RX2 97 "MajorityIndex$Votes" "number" "[I", Cond.methodLink RX2 68 yX2_keepJoined, Cond.instanceMethod yX2_keepJoined, Cond.selects RX2 yX2_keepJoined yX2_keepJoined, Cond.code yX2_keepJoined cX2_keepJoined 4 none, Cond.methodLink RX2 98 Lib.Math.min.name, Cond.static Lib.Math.min.name, Cond.initialized "java/lang/Math", Cond.code Lib.Math.min.name Lib.Math.min.code 2 (some .int), Cond.fieldLink RX2 31 "MajorityIndex$Tree" "lessBy" "[I", Cond.fieldLink RX2 104 "MajorityIndex$Votes" "lessBy" "I"]
def wsX4_laidTree : List Cond := .code yX4_laidTree cX4_laidTree 1 (some (.object "MajorityIndex$Tree")) :: ((wsX4_laidTree_r1 ++ (wsX4_laidTree_r2 ++ (wsX4_laidTree_r3 ++ wsX4_laidTree_r4))) ++ wsX40 ++ wsX20 ++ wsX00 ++ wsX30)
def wsX4_set_r1 : List Cond := [Cond.fieldLink RX4 12 "MajorityIndex" "row" "LMajorityIndex$Row;", Cond.methodLink RX4 64 yX0_hasPlace, Cond.instanceMethod yX0_hasPlace, Cond.selects RX0 yX0_hasPlace yX0_hasPlace, Cond.initialized RX0, Cond.code yX0_hasPlace cX0_hasPlace 2 (some .boolean), Cond.fieldLink RX0 15 "MajorityIndex$Row" "length" "I", Cond.methodLink RX4 68 yX4_isValue, Cond.static yX4_isValue, Cond.initialized RX4, Cond.code yX4_isValue cX4_isValue 1 (some .boolean), Cond.methodLink RX4 71 yX4_laidTree, Cond.instanceMethod yX4_laidTree, Cond.selects RX4 yX4_laidTree yX4_laidTree, Cond.code yX4_laidTree cX4_laidTree 1 (some (.object "MajorityIndex$Tree")), Cond.fieldLink RX4 53 "MajorityIndex" "treeIsOld" "Z", Cond.fieldLink RX4 21 "MajorityIndex" "tree" "LMajorityIndex$Tree;", Cond.fieldLink RX4 49 "MajorityIndex" "slotsNow" "I", Cond.fieldLink RX4 204 "MajorityIndex$Tree" "slotsHere" "I", Cond.fieldLink RX4 57 "MajorityIndex$Row" "length" "I", Cond.methodLink RX4 259 yX2_layRanges, Cond.instanceMethod yX2_layRanges, Cond.selects RX2 yX2_layRanges yX2_layRanges, Cond.initialized RX2]
def wsX4_set_r2 : List Cond := [Cond.code yX2_layRanges cX2_layRanges 2 none, Cond.fieldLink RX2 40 "MajorityIndex$Tree" "row" "LMajorityIndex$Row;", Cond.fieldLink RX2 44 "MajorityIndex$Row" "length" "I", Cond.fieldLink RX2 50 "MajorityIndex$Tree" "nodes" "I", Cond.fieldLink RX2 18 "MajorityIndex$Tree" "from" "[I", Cond.fieldLink RX2 22 "MajorityIndex$Tree" "to" "[I", Cond.methodLink RX2 53 yX2_layBelow, Cond.instanceMethod yX2_layBelow, Cond.selects RX2 yX2_layBelow yX2_layBelow, Cond.code yX2_layBelow cX2_layBelow 4 none, Cond.methodLink RX2 57 yX2_rightBelow, Cond.instanceMethod yX2_rightBelow, Cond.selects RX2 yX2_rightBelow yX2_rightBelow, Cond.code yX2_rightBelow cX2_rightBelow 3 (some .int), Cond.methodLink RX4 87 yX2_renew, Cond.instanceMethod yX2_renew, Cond.selects RX2 yX2_renew yX2_renew, Cond.code yX2_renew cX2_renew 5 (some .int), Cond.methodLink RX2 61 yX2_putTogether, Cond.instanceMethod yX2_putTogether, Cond.selects RX2 yX2_putTogether yX2_putTogether, Cond.code yX2_putTogether cX2_putTogether 2 none, Cond.fieldLink RX2 12 "MajorityIndex$Tree" "joined" "LMajorityIndex$Votes;", Cond.fieldLink RX2 74 "MajorityIndex$Row" "cell" "[I"]
def wsX4_set_r3 : List Cond := [Cond.fieldLink RX2 85 "MajorityIndex$Tree" "slotsHere" "I", Cond.methodLink RX2 71 yX3_clear, Cond.instanceMethod yX3_clear, Cond.selects RX3 yX3_clear yX3_clear, Cond.initialized RX3, Cond.code yX3_clear cX3_clear 1 none, Cond.fieldLink RX3 18 "MajorityIndex$Votes" "size" "I", Cond.fieldLink RX3 22 "MajorityIndex$Votes" "lost" "I", Cond.fieldLink RX3 25 "MajorityIndex$Votes" "lessBy" "I", Cond.methodLink RX2 77 yX3_add, Cond.instanceMethod yX3_add, Cond.selects RX3 yX3_add yX3_add, Cond.code yX3_add cX3_add 4 none, Cond.fieldLink RX3 9 "MajorityIndex$Votes" "value" "[I", Cond.fieldLink RX3 15 "MajorityIndex$Votes" "number" "[I", Cond.methodLink RX2 81 yX2_joinNode, Cond.instanceMethod yX2_joinNode, Cond.selects RX2 yX2_joinNode yX2_joinNode, Cond.code yX2_joinNode cX2_joinNode 5 none, Cond.fieldLink RX2 25 "MajorityIndex$Tree" "size" "[I", Cond.fieldLink RX2 34 "MajorityIndex$Tree" "value" "[I", Cond.fieldLink RX2 37 "MajorityIndex$Tree" "number" "[I", Cond.fieldLink RX2 91 "MajorityIndex$Votes" "lost" "I", Cond.fieldLink RX2 28 "MajorityIndex$Tree" "lossOf" "[I"]
def wsX4_set_r4 : List Cond := [Cond.methodLink RX2 88 yX3_cancel, Cond.instanceMethod yX3_cancel, Cond.selects RX3 yX3_cancel yX3_cancel, Cond.code yX3_cancel cX3_cancel 4 none, Cond.methodLink RX3 32 yX3_order, Cond.instanceMethod yX3_order, Cond.selects RX3 yX3_order yX3_order, Cond.code yX3_order cX3_order 3 none, Cond.methodLink RX3 35 yX3_isAhead, Cond.instanceMethod yX3_isAhead, Cond.selects RX3 yX3_isAhead yX3_isAhead, Cond.code yX3_isAhead cX3_isAhead 3 (some .boolean), Cond.methodLink RX3 39 yX3_exchange, Cond.instanceMethod yX3_exchange, Cond.selects RX3 yX3_exchange yX3_exchange, Cond.code yX3_exchange cX3_exchange 5 none, Cond.methodLink RX2 64 yX2_isJoined, Cond.instanceMethod yX2_isJoined, Cond.selects RX2 yX2_isJoined yX2_isJoined, Cond.code yX2_isJoined cX2_isJoined 4 (some .boolean), Cond.fieldLink RX2 94 "MajorityIndex$Votes" "size" "I", Cond.fieldLink RX2 96 "MajorityIndex$Votes" "value" "[I", Cond.fieldLink RX2 97 "MajorityIndex$Votes" "number" "[I", Cond.methodLink RX2 68 yX2_keepJoined]
def wsX4_set_r5 : List Cond := [Cond.instanceMethod yX2_keepJoined, Cond.selects RX2 yX2_keepJoined yX2_keepJoined, Cond.code yX2_keepJoined cX2_keepJoined 4 none, Cond.methodLink RX2 98 Lib.Math.min.name, Cond.static Lib.Math.min.name, Cond.initialized "java/lang/Math", Cond.code Lib.Math.min.name Lib.Math.min.code 2 (some .int), Cond.fieldLink RX2 31 "MajorityIndex$Tree" "lessBy" "[I", Cond.fieldLink RX2 104 "MajorityIndex$Votes" "lessBy" "I", Cond.methodLink RX4 75 yX4_overwrite, Cond.instanceMethod yX4_overwrite, Cond.selects RX4 yX4_overwrite yX4_overwrite, Cond.code yX4_overwrite cX4_overwrite 6 (some .int), Cond.fieldLink RX4 110 "MajorityIndex$Row" "cell" "[I"]
def wsX4_set : List Cond := .code yX4_set cX4_set 3 (some .int) :: ((wsX4_set_r1 ++ (wsX4_set_r2 ++ (wsX4_set_r3 ++ (wsX4_set_r4 ++ wsX4_set_r5)))) ++ wsX40 ++ wsX00 ++ wsX20 ++ wsX30)
def wsX4_fill_r1 : List Cond := [Cond.fieldLink RX4 12 "MajorityIndex" "row" "LMajorityIndex$Row;", Cond.methodLink RX4 79 yX0_hasRange, Cond.instanceMethod yX0_hasRange, Cond.selects RX0 yX0_hasRange yX0_hasRange, Cond.initialized RX0, Cond.code yX0_hasRange cX0_hasRange 3 (some .boolean), Cond.fieldLink RX0 15 "MajorityIndex$Row" "length" "I", Cond.methodLink RX4 68 yX4_isValue, Cond.static yX4_isValue, Cond.initialized RX4, Cond.code yX4_isValue cX4_isValue 1 (some .boolean), Cond.methodLink RX4 71 yX4_laidTree, Cond.instanceMethod yX4_laidTree, Cond.selects RX4 yX4_laidTree yX4_laidTree, Cond.code yX4_laidTree cX4_laidTree 1 (some (.object "MajorityIndex$Tree")), Cond.fieldLink RX4 53 "MajorityIndex" "treeIsOld" "Z", Cond.fieldLink RX4 21 "MajorityIndex" "tree" "LMajorityIndex$Tree;", Cond.fieldLink RX4 49 "MajorityIndex" "slotsNow" "I", Cond.fieldLink RX4 204 "MajorityIndex$Tree" "slotsHere" "I", Cond.fieldLink RX4 57 "MajorityIndex$Row" "length" "I", Cond.methodLink RX4 259 yX2_layRanges, Cond.instanceMethod yX2_layRanges, Cond.selects RX2 yX2_layRanges yX2_layRanges, Cond.initialized RX2]
def wsX4_fill_r2 : List Cond := [Cond.code yX2_layRanges cX2_layRanges 2 none, Cond.fieldLink RX2 40 "MajorityIndex$Tree" "row" "LMajorityIndex$Row;", Cond.fieldLink RX2 44 "MajorityIndex$Row" "length" "I", Cond.fieldLink RX2 50 "MajorityIndex$Tree" "nodes" "I", Cond.fieldLink RX2 18 "MajorityIndex$Tree" "from" "[I", Cond.fieldLink RX2 22 "MajorityIndex$Tree" "to" "[I", Cond.methodLink RX2 53 yX2_layBelow, Cond.instanceMethod yX2_layBelow, Cond.selects RX2 yX2_layBelow yX2_layBelow, Cond.code yX2_layBelow cX2_layBelow 4 none, Cond.methodLink RX2 57 yX2_rightBelow, Cond.instanceMethod yX2_rightBelow, Cond.selects RX2 yX2_rightBelow yX2_rightBelow, Cond.code yX2_rightBelow cX2_rightBelow 3 (some .int), Cond.methodLink RX4 87 yX2_renew, Cond.instanceMethod yX2_renew, Cond.selects RX2 yX2_renew yX2_renew, Cond.code yX2_renew cX2_renew 5 (some .int), Cond.methodLink RX2 61 yX2_putTogether, Cond.instanceMethod yX2_putTogether, Cond.selects RX2 yX2_putTogether yX2_putTogether, Cond.code yX2_putTogether cX2_putTogether 2 none, Cond.fieldLink RX2 12 "MajorityIndex$Tree" "joined" "LMajorityIndex$Votes;", Cond.fieldLink RX2 74 "MajorityIndex$Row" "cell" "[I"]
def wsX4_fill_r3 : List Cond := [Cond.fieldLink RX2 85 "MajorityIndex$Tree" "slotsHere" "I", Cond.methodLink RX2 71 yX3_clear, Cond.instanceMethod yX3_clear, Cond.selects RX3 yX3_clear yX3_clear, Cond.initialized RX3, Cond.code yX3_clear cX3_clear 1 none, Cond.fieldLink RX3 18 "MajorityIndex$Votes" "size" "I", Cond.fieldLink RX3 22 "MajorityIndex$Votes" "lost" "I", Cond.fieldLink RX3 25 "MajorityIndex$Votes" "lessBy" "I", Cond.methodLink RX2 77 yX3_add, Cond.instanceMethod yX3_add, Cond.selects RX3 yX3_add yX3_add, Cond.code yX3_add cX3_add 4 none, Cond.fieldLink RX3 9 "MajorityIndex$Votes" "value" "[I", Cond.fieldLink RX3 15 "MajorityIndex$Votes" "number" "[I", Cond.methodLink RX2 81 yX2_joinNode, Cond.instanceMethod yX2_joinNode, Cond.selects RX2 yX2_joinNode yX2_joinNode, Cond.code yX2_joinNode cX2_joinNode 5 none, Cond.fieldLink RX2 25 "MajorityIndex$Tree" "size" "[I", Cond.fieldLink RX2 34 "MajorityIndex$Tree" "value" "[I", Cond.fieldLink RX2 37 "MajorityIndex$Tree" "number" "[I", Cond.fieldLink RX2 91 "MajorityIndex$Votes" "lost" "I", Cond.fieldLink RX2 28 "MajorityIndex$Tree" "lossOf" "[I"]
def wsX4_fill_r4 : List Cond := [Cond.methodLink RX2 88 yX3_cancel, Cond.instanceMethod yX3_cancel, Cond.selects RX3 yX3_cancel yX3_cancel, Cond.code yX3_cancel cX3_cancel 4 none, Cond.methodLink RX3 32 yX3_order, Cond.instanceMethod yX3_order, Cond.selects RX3 yX3_order yX3_order, Cond.code yX3_order cX3_order 3 none, Cond.methodLink RX3 35 yX3_isAhead, Cond.instanceMethod yX3_isAhead, Cond.selects RX3 yX3_isAhead yX3_isAhead, Cond.code yX3_isAhead cX3_isAhead 3 (some .boolean), Cond.methodLink RX3 39 yX3_exchange, Cond.instanceMethod yX3_exchange, Cond.selects RX3 yX3_exchange yX3_exchange, Cond.code yX3_exchange cX3_exchange 5 none, Cond.methodLink RX2 64 yX2_isJoined, Cond.instanceMethod yX2_isJoined, Cond.selects RX2 yX2_isJoined yX2_isJoined, Cond.code yX2_isJoined cX2_isJoined 4 (some .boolean), Cond.fieldLink RX2 94 "MajorityIndex$Votes" "size" "I", Cond.fieldLink RX2 96 "MajorityIndex$Votes" "value" "[I", Cond.fieldLink RX2 97 "MajorityIndex$Votes" "number" "[I", Cond.methodLink RX2 68 yX2_keepJoined]
def wsX4_fill_r5 : List Cond := [Cond.instanceMethod yX2_keepJoined, Cond.selects RX2 yX2_keepJoined yX2_keepJoined, Cond.code yX2_keepJoined cX2_keepJoined 4 none, Cond.methodLink RX2 98 Lib.Math.min.name, Cond.static Lib.Math.min.name, Cond.initialized "java/lang/Math", Cond.code Lib.Math.min.name Lib.Math.min.code 2 (some .int), Cond.fieldLink RX2 31 "MajorityIndex$Tree" "lessBy" "[I", Cond.fieldLink RX2 104 "MajorityIndex$Votes" "lessBy" "I", Cond.methodLink RX4 75 yX4_overwrite, Cond.instanceMethod yX4_overwrite, Cond.selects RX4 yX4_overwrite yX4_overwrite, Cond.code yX4_overwrite cX4_overwrite 6 (some .int), Cond.fieldLink RX4 110 "MajorityIndex$Row" "cell" "[I"]
def wsX4_fill : List Cond := .code yX4_fill cX4_fill 4 (some .int) :: ((wsX4_fill_r1 ++ (wsX4_fill_r2 ++ (wsX4_fill_r3 ++ (wsX4_fill_r4 ++ wsX4_fill_r5)))) ++ wsX40 ++ wsX00 ++ wsX20 ++ wsX30)
def wsX4_turn_r1 : List Cond := [Cond.fieldLink RX4 12 "MajorityIndex" "row" "LMajorityIndex$Row;", Cond.methodLink RX4 79 yX0_hasRange, Cond.instanceMethod yX0_hasRange, Cond.selects RX0 yX0_hasRange yX0_hasRange, Cond.initialized RX0, Cond.code yX0_hasRange cX0_hasRange 3 (some .boolean), Cond.fieldLink RX0 15 "MajorityIndex$Row" "length" "I", Cond.methodLink RX4 71 yX4_laidTree, Cond.instanceMethod yX4_laidTree, Cond.selects RX4 yX4_laidTree yX4_laidTree, Cond.initialized RX4, Cond.code yX4_laidTree cX4_laidTree 1 (some (.object "MajorityIndex$Tree")), Cond.fieldLink RX4 53 "MajorityIndex" "treeIsOld" "Z", Cond.fieldLink RX4 21 "MajorityIndex" "tree" "LMajorityIndex$Tree;", Cond.fieldLink RX4 49 "MajorityIndex" "slotsNow" "I", Cond.fieldLink RX4 204 "MajorityIndex$Tree" "slotsHere" "I", Cond.fieldLink RX4 57 "MajorityIndex$Row" "length" "I", Cond.methodLink RX4 259 yX2_layRanges, Cond.instanceMethod yX2_layRanges, Cond.selects RX2 yX2_layRanges yX2_layRanges, Cond.initialized RX2, Cond.code yX2_layRanges cX2_layRanges 2 none, Cond.fieldLink RX2 40 "MajorityIndex$Tree" "row" "LMajorityIndex$Row;", Cond.fieldLink RX2 44 "MajorityIndex$Row" "length" "I"]
def wsX4_turn_r2 : List Cond := [Cond.fieldLink RX2 50 "MajorityIndex$Tree" "nodes" "I", Cond.fieldLink RX2 18 "MajorityIndex$Tree" "from" "[I", Cond.fieldLink RX2 22 "MajorityIndex$Tree" "to" "[I", Cond.methodLink RX2 53 yX2_layBelow, Cond.instanceMethod yX2_layBelow, Cond.selects RX2 yX2_layBelow yX2_layBelow, Cond.code yX2_layBelow cX2_layBelow 4 none, Cond.methodLink RX2 57 yX2_rightBelow, Cond.instanceMethod yX2_rightBelow, Cond.selects RX2 yX2_rightBelow yX2_rightBelow, Cond.code yX2_rightBelow cX2_rightBelow 3 (some .int), Cond.methodLink RX4 87 yX2_renew, Cond.instanceMethod yX2_renew, Cond.selects RX2 yX2_renew yX2_renew, Cond.code yX2_renew cX2_renew 5 (some .int), Cond.methodLink RX2 61 yX2_putTogether, Cond.instanceMethod yX2_putTogether, Cond.selects RX2 yX2_putTogether yX2_putTogether, Cond.code yX2_putTogether cX2_putTogether 2 none, Cond.fieldLink RX2 12 "MajorityIndex$Tree" "joined" "LMajorityIndex$Votes;", Cond.fieldLink RX2 74 "MajorityIndex$Row" "cell" "[I", Cond.fieldLink RX2 85 "MajorityIndex$Tree" "slotsHere" "I", Cond.methodLink RX2 71 yX3_clear, Cond.instanceMethod yX3_clear]
def wsX4_turn_r3 : List Cond := [Cond.selects RX3 yX3_clear yX3_clear, Cond.initialized RX3, Cond.code yX3_clear cX3_clear 1 none, Cond.fieldLink RX3 18 "MajorityIndex$Votes" "size" "I", Cond.fieldLink RX3 22 "MajorityIndex$Votes" "lost" "I", Cond.fieldLink RX3 25 "MajorityIndex$Votes" "lessBy" "I", Cond.methodLink RX2 77 yX3_add, Cond.instanceMethod yX3_add, Cond.selects RX3 yX3_add yX3_add, Cond.code yX3_add cX3_add 4 none, Cond.fieldLink RX3 9 "MajorityIndex$Votes" "value" "[I", Cond.fieldLink RX3 15 "MajorityIndex$Votes" "number" "[I", Cond.methodLink RX2 81 yX2_joinNode, Cond.instanceMethod yX2_joinNode, Cond.selects RX2 yX2_joinNode yX2_joinNode, Cond.code yX2_joinNode cX2_joinNode 5 none, Cond.fieldLink RX2 25 "MajorityIndex$Tree" "size" "[I", Cond.fieldLink RX2 34 "MajorityIndex$Tree" "value" "[I", Cond.fieldLink RX2 37 "MajorityIndex$Tree" "number" "[I", Cond.fieldLink RX2 91 "MajorityIndex$Votes" "lost" "I", Cond.fieldLink RX2 28 "MajorityIndex$Tree" "lossOf" "[I", Cond.methodLink RX2 88 yX3_cancel, Cond.instanceMethod yX3_cancel, Cond.selects RX3 yX3_cancel yX3_cancel]
def wsX4_turn_r4 : List Cond := [Cond.code yX3_cancel cX3_cancel 4 none, Cond.methodLink RX3 32 yX3_order, Cond.instanceMethod yX3_order, Cond.selects RX3 yX3_order yX3_order, Cond.code yX3_order cX3_order 3 none, Cond.methodLink RX3 35 yX3_isAhead, Cond.instanceMethod yX3_isAhead, Cond.selects RX3 yX3_isAhead yX3_isAhead, Cond.code yX3_isAhead cX3_isAhead 3 (some .boolean), Cond.methodLink RX3 39 yX3_exchange, Cond.instanceMethod yX3_exchange, Cond.selects RX3 yX3_exchange yX3_exchange, Cond.code yX3_exchange cX3_exchange 5 none, Cond.methodLink RX2 64 yX2_isJoined, Cond.instanceMethod yX2_isJoined, Cond.selects RX2 yX2_isJoined yX2_isJoined, Cond.code yX2_isJoined cX2_isJoined 4 (some .boolean), Cond.fieldLink RX2 94 "MajorityIndex$Votes" "size" "I", Cond.fieldLink RX2 96 "MajorityIndex$Votes" "value" "[I", Cond.fieldLink RX2 97 "MajorityIndex$Votes" "number" "[I", Cond.methodLink RX2 68 yX2_keepJoined, Cond.instanceMethod yX2_keepJoined, Cond.selects RX2 yX2_keepJoined yX2_keepJoined, Cond.code yX2_keepJoined cX2_keepJoined 4 none]
def wsX4_turn_r5 : List Cond := [Cond.methodLink RX2 98 Lib.Math.min.name, Cond.static Lib.Math.min.name, Cond.initialized "java/lang/Math", Cond.code Lib.Math.min.name Lib.Math.min.code 2 (some .int), Cond.fieldLink RX2 31 "MajorityIndex$Tree" "lessBy" "[I", Cond.fieldLink RX2 104 "MajorityIndex$Votes" "lessBy" "I", Cond.methodLink RX4 83 yX0_exchange, Cond.instanceMethod yX0_exchange, Cond.selects RX0 yX0_exchange yX0_exchange, Cond.code yX0_exchange cX0_exchange 4 none, Cond.fieldLink RX0 9 "MajorityIndex$Row" "cell" "[I"]
def wsX4_turn : List Cond := .code yX4_turn cX4_turn 6 (some .int) :: ((wsX4_turn_r1 ++ (wsX4_turn_r2 ++ (wsX4_turn_r3 ++ (wsX4_turn_r4 ++ wsX4_turn_r5)))) ++ wsX40 ++ wsX00 ++ wsX20 ++ wsX30)
def wsX4_swap_r1 : List Cond := [Cond.fieldLink RX4 12 "MajorityIndex" "row" "LMajorityIndex$Row;", Cond.methodLink RX4 91 Lib.Math.min.name, Cond.static Lib.Math.min.name, Cond.initialized "java/lang/Math", Cond.code Lib.Math.min.name Lib.Math.min.code 2 (some .int), Cond.methodLink RX4 96 Lib.Math.max.name, Cond.static Lib.Math.max.name, Cond.code Lib.Math.max.name Lib.Math.max.code 2 (some .int), Cond.methodLink RX4 64 yX0_hasPlace, Cond.instanceMethod yX0_hasPlace, Cond.selects RX0 yX0_hasPlace yX0_hasPlace, Cond.initialized RX0, Cond.code yX0_hasPlace cX0_hasPlace 2 (some .boolean), Cond.fieldLink RX0 15 "MajorityIndex$Row" "length" "I", Cond.methodLink RX4 71 yX4_laidTree, Cond.instanceMethod yX4_laidTree, Cond.selects RX4 yX4_laidTree yX4_laidTree, Cond.initialized RX4, Cond.code yX4_laidTree cX4_laidTree 1 (some (.object "MajorityIndex$Tree")), Cond.fieldLink RX4 53 "MajorityIndex" "treeIsOld" "Z", Cond.fieldLink RX4 21 "MajorityIndex" "tree" "LMajorityIndex$Tree;", Cond.fieldLink RX4 49 "MajorityIndex" "slotsNow" "I", Cond.fieldLink RX4 204 "MajorityIndex$Tree" "slotsHere" "I", Cond.fieldLink RX4 57 "MajorityIndex$Row" "length" "I"]
def wsX4_swap_r2 : List Cond := [Cond.methodLink RX4 259 yX2_layRanges, Cond.instanceMethod yX2_layRanges, Cond.selects RX2 yX2_layRanges yX2_layRanges, Cond.initialized RX2, Cond.code yX2_layRanges cX2_layRanges 2 none, Cond.fieldLink RX2 40 "MajorityIndex$Tree" "row" "LMajorityIndex$Row;", Cond.fieldLink RX2 44 "MajorityIndex$Row" "length" "I", Cond.fieldLink RX2 50 "MajorityIndex$Tree" "nodes" "I", Cond.fieldLink RX2 18 "MajorityIndex$Tree" "from" "[I", Cond.fieldLink RX2 22 "MajorityIndex$Tree" "to" "[I", Cond.methodLink RX2 53 yX2_layBelow, Cond.instanceMethod yX2_layBelow, Cond.selects RX2 yX2_layBelow yX2_layBelow, Cond.code yX2_layBelow cX2_layBelow 4 none, Cond.methodLink RX2 57 yX2_rightBelow, Cond.instanceMethod yX2_rightBelow, Cond.selects RX2 yX2_rightBelow yX2_rightBelow, Cond.code yX2_rightBelow cX2_rightBelow 3 (some .int), Cond.methodLink RX4 87 yX2_renew, Cond.instanceMethod yX2_renew, Cond.selects RX2 yX2_renew yX2_renew, Cond.code yX2_renew cX2_renew 5 (some .int), Cond.methodLink RX2 61 yX2_putTogether, Cond.instanceMethod yX2_putTogether]
def wsX4_swap_r3 : List Cond := [Cond.selects RX2 yX2_putTogether yX2_putTogether, Cond.code yX2_putTogether cX2_putTogether 2 none, Cond.fieldLink RX2 12 "MajorityIndex$Tree" "joined" "LMajorityIndex$Votes;", Cond.fieldLink RX2 74 "MajorityIndex$Row" "cell" "[I", Cond.fieldLink RX2 85 "MajorityIndex$Tree" "slotsHere" "I", Cond.methodLink RX2 71 yX3_clear, Cond.instanceMethod yX3_clear, Cond.selects RX3 yX3_clear yX3_clear, Cond.initialized RX3, Cond.code yX3_clear cX3_clear 1 none, Cond.fieldLink RX3 18 "MajorityIndex$Votes" "size" "I", Cond.fieldLink RX3 22 "MajorityIndex$Votes" "lost" "I", Cond.fieldLink RX3 25 "MajorityIndex$Votes" "lessBy" "I", Cond.methodLink RX2 77 yX3_add, Cond.instanceMethod yX3_add, Cond.selects RX3 yX3_add yX3_add, Cond.code yX3_add cX3_add 4 none, Cond.fieldLink RX3 9 "MajorityIndex$Votes" "value" "[I", Cond.fieldLink RX3 15 "MajorityIndex$Votes" "number" "[I", Cond.methodLink RX2 81 yX2_joinNode, Cond.instanceMethod yX2_joinNode, Cond.selects RX2 yX2_joinNode yX2_joinNode, Cond.code yX2_joinNode cX2_joinNode 5 none, Cond.fieldLink RX2 25 "MajorityIndex$Tree" "size" "[I"]
def wsX4_swap_r4 : List Cond := [Cond.fieldLink RX2 34 "MajorityIndex$Tree" "value" "[I", Cond.fieldLink RX2 37 "MajorityIndex$Tree" "number" "[I", Cond.fieldLink RX2 91 "MajorityIndex$Votes" "lost" "I", Cond.fieldLink RX2 28 "MajorityIndex$Tree" "lossOf" "[I", Cond.methodLink RX2 88 yX3_cancel, Cond.instanceMethod yX3_cancel, Cond.selects RX3 yX3_cancel yX3_cancel, Cond.code yX3_cancel cX3_cancel 4 none, Cond.methodLink RX3 32 yX3_order, Cond.instanceMethod yX3_order, Cond.selects RX3 yX3_order yX3_order, Cond.code yX3_order cX3_order 3 none, Cond.methodLink RX3 35 yX3_isAhead, Cond.instanceMethod yX3_isAhead, Cond.selects RX3 yX3_isAhead yX3_isAhead, Cond.code yX3_isAhead cX3_isAhead 3 (some .boolean), Cond.methodLink RX3 39 yX3_exchange, Cond.instanceMethod yX3_exchange, Cond.selects RX3 yX3_exchange yX3_exchange, Cond.code yX3_exchange cX3_exchange 5 none, Cond.methodLink RX2 64 yX2_isJoined, Cond.instanceMethod yX2_isJoined, Cond.selects RX2 yX2_isJoined yX2_isJoined, Cond.code yX2_isJoined cX2_isJoined 4 (some .boolean)]
def wsX4_swap_r5 : List Cond := [Cond.fieldLink RX2 94 "MajorityIndex$Votes" "size" "I", Cond.fieldLink RX2 96 "MajorityIndex$Votes" "value" "[I", Cond.fieldLink RX2 97 "MajorityIndex$Votes" "number" "[I", Cond.methodLink RX2 68 yX2_keepJoined, Cond.instanceMethod yX2_keepJoined, Cond.selects RX2 yX2_keepJoined yX2_keepJoined, Cond.code yX2_keepJoined cX2_keepJoined 4 none, Cond.methodLink RX2 98 Lib.Math.min.name, Cond.fieldLink RX2 31 "MajorityIndex$Tree" "lessBy" "[I", Cond.fieldLink RX2 104 "MajorityIndex$Votes" "lessBy" "I", Cond.methodLink RX4 83 yX0_exchange, Cond.instanceMethod yX0_exchange, Cond.selects RX0 yX0_exchange yX0_exchange, Cond.code yX0_exchange cX0_exchange 4 none, Cond.fieldLink RX0 9 "MajorityIndex$Row" "cell" "[I"]
def wsX4_swap : List Cond := .code yX4_swap cX4_swap 4 (some .int) :: ((wsX4_swap_r1 ++ (wsX4_swap_r2 ++ (wsX4_swap_r3 ++ (wsX4_swap_r4 ++ wsX4_swap_r5)))) ++ wsX40 ++ wsX00 ++ wsX20 ++ wsX30)
def wsX4_insert : List Cond := .code yX4_insert cX4_insert 3 (some .int) :: ([.fieldLink RX4 12 "MajorityIndex" "row" "LMajorityIndex$Row;", .fieldLink RX4 57 "MajorityIndex$Row" "length" "I", .fieldLink RX4 53 "MajorityIndex" "treeIsOld" "Z", .methodLink RX4 68 yX4_isValue, .static yX4_isValue, .initialized RX4, .code yX4_isValue cX4_isValue 1 (some .boolean), .methodLink RX4 99 yX0_putIn, .instanceMethod yX0_putIn, .selects RX0 yX0_putIn yX0_putIn, .initialized RX0, .code yX0_putIn cX0_putIn 4 none, .fieldLink RX0 15 "MajorityIndex$Row" "length" "I", .fieldLink RX0 9 "MajorityIndex$Row" "cell" "[I"] ++ wsX40 ++ wsX00)
def wsX4_remove : List Cond := .code yX4_remove cX4_remove 3 (some .int) :: ([.fieldLink RX4 12 "MajorityIndex" "row" "LMajorityIndex$Row;", .constant RX4 102 (-40000), .fieldLink RX4 53 "MajorityIndex" "treeIsOld" "Z", .methodLink RX4 64 yX0_hasPlace, .instanceMethod yX0_hasPlace, .selects RX0 yX0_hasPlace yX0_hasPlace, .initialized RX0, .code yX0_hasPlace cX0_hasPlace 2 (some .boolean), .fieldLink RX0 15 "MajorityIndex$Row" "length" "I", .methodLink RX4 103 yX0_takeOut, .instanceMethod yX0_takeOut, .selects RX0 yX0_takeOut yX0_takeOut, .code yX0_takeOut cX0_takeOut 4 (some .int), .constant RX0 23 (-40000), .fieldLink RX0 9 "MajorityIndex$Row" "cell" "[I", .methodLink RX0 19 yX0_hasPlace] ++ wsX40 ++ wsX00)
def wsX4_count : List Cond := .code yX4_count cX4_count 4 (some .int) :: ([.fieldLink RX4 12 "MajorityIndex" "row" "LMajorityIndex$Row;", .methodLink RX4 68 yX4_isValue, .static yX4_isValue, .initialized RX4, .code yX4_isValue cX4_isValue 1 (some .boolean), .methodLink RX4 79 yX0_hasRange, .instanceMethod yX0_hasRange, .selects RX0 yX0_hasRange yX0_hasRange, .initialized RX0, .code yX0_hasRange cX0_hasRange 3 (some .boolean), .fieldLink RX0 15 "MajorityIndex$Row" "length" "I", .methodLink RX4 113 yX0_oftenIn, .instanceMethod yX0_oftenIn, .selects RX0 yX0_oftenIn yX0_oftenIn, .code yX0_oftenIn cX0_oftenIn 6 (some .int), .fieldLink RX0 9 "MajorityIndex$Row" "cell" "[I"] ++ wsX40 ++ wsX00)
def wsX4_place : List Cond := .code yX4_place cX4_place 5 (some .int) :: ([.fieldLink RX4 12 "MajorityIndex" "row" "LMajorityIndex$Row;", .fieldLink RX4 57 "MajorityIndex$Row" "length" "I", .fieldLink RX4 110 "MajorityIndex$Row" "cell" "[I"] ++ wsX40 ++ wsX00)
def wsX4_values : List Cond := .code yX4_values cX4_values 3 (some .int) :: ([.fieldLink RX4 28 "MajorityIndex" "tally" "LMajorityIndex$Tally;", .fieldLink RX4 12 "MajorityIndex" "row" "LMajorityIndex$Row;", .fieldLink RX4 57 "MajorityIndex$Row" "length" "I", .fieldLink RX4 120 "MajorityIndex$Tally" "kind" "[I", .methodLink RX4 117 yX1_learn, .instanceMethod yX1_learn, .selects RX1 yX1_learn yX1_learn, .initialized RX1, .code yX1_learn cX1_learn 3 none, .fieldLink RX1 18 "MajorityIndex$Row" "length" "I", .fieldLink RX1 9 "MajorityIndex$Tally" "kind" "[I", .methodLink RX1 24 yX0_firstLike, .instanceMethod yX0_firstLike, .selects RX0 yX0_firstLike yX0_firstLike, .initialized RX0, .code yX0_firstLike cX0_firstLike 3 (some .int), .fieldLink RX0 9 "MajorityIndex$Row" "cell" "[I"] ++ wsX40 ++ wsX00 ++ wsX10)
def wsX4_node_r1 : List Cond := [Cond.fieldLink RX4 12 "MajorityIndex" "row" "LMajorityIndex$Row;", Cond.fieldLink RX4 126 "MajorityIndex$Tree" "size" "[I", Cond.methodLink RX4 79 yX0_hasRange, Cond.instanceMethod yX0_hasRange, Cond.selects RX0 yX0_hasRange yX0_hasRange, Cond.initialized RX0, Cond.code yX0_hasRange cX0_hasRange 3 (some .boolean), Cond.fieldLink RX0 15 "MajorityIndex$Row" "length" "I", Cond.methodLink RX4 71 yX4_laidTree, Cond.instanceMethod yX4_laidTree, Cond.selects RX4 yX4_laidTree yX4_laidTree, Cond.initialized RX4, Cond.code yX4_laidTree cX4_laidTree 1 (some (.object "MajorityIndex$Tree")), Cond.fieldLink RX4 53 "MajorityIndex" "treeIsOld" "Z", Cond.fieldLink RX4 21 "MajorityIndex" "tree" "LMajorityIndex$Tree;", Cond.fieldLink RX4 49 "MajorityIndex" "slotsNow" "I", Cond.fieldLink RX4 204 "MajorityIndex$Tree" "slotsHere" "I", Cond.fieldLink RX4 57 "MajorityIndex$Row" "length" "I", Cond.methodLink RX4 259 yX2_layRanges, Cond.instanceMethod yX2_layRanges, Cond.selects RX2 yX2_layRanges yX2_layRanges, Cond.initialized RX2, Cond.code yX2_layRanges cX2_layRanges 2 none, Cond.fieldLink RX2 40 "MajorityIndex$Tree" "row" "LMajorityIndex$Row;"]
def wsX4_node_r2 : List Cond := [Cond.fieldLink RX2 44 "MajorityIndex$Row" "length" "I", Cond.fieldLink RX2 50 "MajorityIndex$Tree" "nodes" "I", Cond.fieldLink RX2 18 "MajorityIndex$Tree" "from" "[I", Cond.fieldLink RX2 22 "MajorityIndex$Tree" "to" "[I", Cond.methodLink RX2 53 yX2_layBelow, Cond.instanceMethod yX2_layBelow, Cond.selects RX2 yX2_layBelow yX2_layBelow, Cond.code yX2_layBelow cX2_layBelow 4 none, Cond.methodLink RX2 57 yX2_rightBelow, Cond.instanceMethod yX2_rightBelow, Cond.selects RX2 yX2_rightBelow yX2_rightBelow, Cond.code yX2_rightBelow cX2_rightBelow 3 (some .int), Cond.methodLink RX4 87 yX2_renew, Cond.instanceMethod yX2_renew, Cond.selects RX2 yX2_renew yX2_renew, Cond.code yX2_renew cX2_renew 5 (some .int), Cond.methodLink RX2 61 yX2_putTogether, Cond.instanceMethod yX2_putTogether, Cond.selects RX2 yX2_putTogether yX2_putTogether, Cond.code yX2_putTogether cX2_putTogether 2 none, Cond.fieldLink RX2 12 "MajorityIndex$Tree" "joined" "LMajorityIndex$Votes;", Cond.fieldLink RX2 74 "MajorityIndex$Row" "cell" "[I", Cond.fieldLink RX2 85 "MajorityIndex$Tree" "slotsHere" "I", Cond.methodLink RX2 71 yX3_clear]
def wsX4_node_r3 : List Cond := [Cond.instanceMethod yX3_clear, Cond.selects RX3 yX3_clear yX3_clear, Cond.initialized RX3, Cond.code yX3_clear cX3_clear 1 none, Cond.fieldLink RX3 18 "MajorityIndex$Votes" "size" "I", Cond.fieldLink RX3 22 "MajorityIndex$Votes" "lost" "I", Cond.fieldLink RX3 25 "MajorityIndex$Votes" "lessBy" "I", Cond.methodLink RX2 77 yX3_add, Cond.instanceMethod yX3_add, Cond.selects RX3 yX3_add yX3_add, Cond.code yX3_add cX3_add 4 none, Cond.fieldLink RX3 9 "MajorityIndex$Votes" "value" "[I", Cond.fieldLink RX3 15 "MajorityIndex$Votes" "number" "[I", Cond.methodLink RX2 81 yX2_joinNode, Cond.instanceMethod yX2_joinNode, Cond.selects RX2 yX2_joinNode yX2_joinNode, Cond.code yX2_joinNode cX2_joinNode 5 none, Cond.fieldLink RX2 25 "MajorityIndex$Tree" "size" "[I", Cond.fieldLink RX2 34 "MajorityIndex$Tree" "value" "[I", Cond.fieldLink RX2 37 "MajorityIndex$Tree" "number" "[I", Cond.fieldLink RX2 91 "MajorityIndex$Votes" "lost" "I", Cond.fieldLink RX2 28 "MajorityIndex$Tree" "lossOf" "[I", Cond.methodLink RX2 88 yX3_cancel, Cond.instanceMethod yX3_cancel]
def wsX4_node_r4 : List Cond := [Cond.selects RX3 yX3_cancel yX3_cancel, Cond.code yX3_cancel cX3_cancel 4 none, Cond.methodLink RX3 32 yX3_order, Cond.instanceMethod yX3_order, Cond.selects RX3 yX3_order yX3_order, Cond.code yX3_order cX3_order 3 none, Cond.methodLink RX3 35 yX3_isAhead, Cond.instanceMethod yX3_isAhead, Cond.selects RX3 yX3_isAhead yX3_isAhead, Cond.code yX3_isAhead cX3_isAhead 3 (some .boolean), Cond.methodLink RX3 39 yX3_exchange, Cond.instanceMethod yX3_exchange, Cond.selects RX3 yX3_exchange yX3_exchange, Cond.code yX3_exchange cX3_exchange 5 none, Cond.methodLink RX2 64 yX2_isJoined, Cond.instanceMethod yX2_isJoined, Cond.selects RX2 yX2_isJoined yX2_isJoined, Cond.code yX2_isJoined cX2_isJoined 4 (some .boolean), Cond.fieldLink RX2 94 "MajorityIndex$Votes" "size" "I", Cond.fieldLink RX2 96 "MajorityIndex$Votes" "value" "[I", Cond.fieldLink RX2 97 "MajorityIndex$Votes" "number" "[I", Cond.methodLink RX2 68 yX2_keepJoined, Cond.instanceMethod yX2_keepJoined, Cond.selects RX2 yX2_keepJoined yX2_keepJoined]
def wsX4_node_r5 : List Cond := [Cond.code yX2_keepJoined cX2_keepJoined 4 none, Cond.methodLink RX2 98 Lib.Math.min.name, Cond.static Lib.Math.min.name, Cond.initialized "java/lang/Math", Cond.code Lib.Math.min.name Lib.Math.min.code 2 (some .int), Cond.fieldLink RX2 31 "MajorityIndex$Tree" "lessBy" "[I", Cond.fieldLink RX2 104 "MajorityIndex$Votes" "lessBy" "I", Cond.methodLink RX4 123 yX2_find, Cond.instanceMethod yX2_find, Cond.selects RX2 yX2_find yX2_find, Cond.code yX2_find cX2_find 4 (some .int)]
def wsX4_node : List Cond := .code yX4_node cX4_node 5 (some .int) :: ((wsX4_node_r1 ++ (wsX4_node_r2 ++ (wsX4_node_r3 ++ (wsX4_node_r4 ++ wsX4_node_r5)))) ++ wsX40 ++ wsX20 ++ wsX00 ++ wsX30)
def wsX4_loss_r1 : List Cond := [Cond.fieldLink RX4 12 "MajorityIndex" "row" "LMajorityIndex$Row;", Cond.fieldLink RX4 139 "MajorityIndex$Tree" "lossOf" "[I", Cond.methodLink RX4 79 yX0_hasRange, Cond.instanceMethod yX0_hasRange, Cond.selects RX0 yX0_hasRange yX0_hasRange, Cond.initialized RX0, Cond.code yX0_hasRange cX0_hasRange 3 (some .boolean), Cond.fieldLink RX0 15 "MajorityIndex$Row" "length" "I", Cond.methodLink RX4 71 yX4_laidTree, Cond.instanceMethod yX4_laidTree, Cond.selects RX4 yX4_laidTree yX4_laidTree, Cond.initialized RX4, Cond.code yX4_laidTree cX4_laidTree 1 (some (.object "MajorityIndex$Tree")), Cond.fieldLink RX4 53 "MajorityIndex" "treeIsOld" "Z", Cond.fieldLink RX4 21 "MajorityIndex" "tree" "LMajorityIndex$Tree;", Cond.fieldLink RX4 49 "MajorityIndex" "slotsNow" "I", Cond.fieldLink RX4 204 "MajorityIndex$Tree" "slotsHere" "I", Cond.fieldLink RX4 57 "MajorityIndex$Row" "length" "I", Cond.methodLink RX4 259 yX2_layRanges, Cond.instanceMethod yX2_layRanges, Cond.selects RX2 yX2_layRanges yX2_layRanges, Cond.initialized RX2, Cond.code yX2_layRanges cX2_layRanges 2 none, Cond.fieldLink RX2 40 "MajorityIndex$Tree" "row" "LMajorityIndex$Row;"]
def wsX4_loss_r2 : List Cond := [Cond.fieldLink RX2 44 "MajorityIndex$Row" "length" "I", Cond.fieldLink RX2 50 "MajorityIndex$Tree" "nodes" "I", Cond.fieldLink RX2 18 "MajorityIndex$Tree" "from" "[I", Cond.fieldLink RX2 22 "MajorityIndex$Tree" "to" "[I", Cond.methodLink RX2 53 yX2_layBelow, Cond.instanceMethod yX2_layBelow, Cond.selects RX2 yX2_layBelow yX2_layBelow, Cond.code yX2_layBelow cX2_layBelow 4 none, Cond.methodLink RX2 57 yX2_rightBelow, Cond.instanceMethod yX2_rightBelow, Cond.selects RX2 yX2_rightBelow yX2_rightBelow, Cond.code yX2_rightBelow cX2_rightBelow 3 (some .int), Cond.methodLink RX4 87 yX2_renew, Cond.instanceMethod yX2_renew, Cond.selects RX2 yX2_renew yX2_renew, Cond.code yX2_renew cX2_renew 5 (some .int), Cond.methodLink RX2 61 yX2_putTogether, Cond.instanceMethod yX2_putTogether, Cond.selects RX2 yX2_putTogether yX2_putTogether, Cond.code yX2_putTogether cX2_putTogether 2 none, Cond.fieldLink RX2 12 "MajorityIndex$Tree" "joined" "LMajorityIndex$Votes;", Cond.fieldLink RX2 74 "MajorityIndex$Row" "cell" "[I", Cond.fieldLink RX2 85 "MajorityIndex$Tree" "slotsHere" "I", Cond.methodLink RX2 71 yX3_clear]
def wsX4_loss_r3 : List Cond := [Cond.instanceMethod yX3_clear, Cond.selects RX3 yX3_clear yX3_clear, Cond.initialized RX3, Cond.code yX3_clear cX3_clear 1 none, Cond.fieldLink RX3 18 "MajorityIndex$Votes" "size" "I", Cond.fieldLink RX3 22 "MajorityIndex$Votes" "lost" "I", Cond.fieldLink RX3 25 "MajorityIndex$Votes" "lessBy" "I", Cond.methodLink RX2 77 yX3_add, Cond.instanceMethod yX3_add, Cond.selects RX3 yX3_add yX3_add, Cond.code yX3_add cX3_add 4 none, Cond.fieldLink RX3 9 "MajorityIndex$Votes" "value" "[I", Cond.fieldLink RX3 15 "MajorityIndex$Votes" "number" "[I", Cond.methodLink RX2 81 yX2_joinNode, Cond.instanceMethod yX2_joinNode, Cond.selects RX2 yX2_joinNode yX2_joinNode, Cond.code yX2_joinNode cX2_joinNode 5 none, Cond.fieldLink RX2 25 "MajorityIndex$Tree" "size" "[I", Cond.fieldLink RX2 34 "MajorityIndex$Tree" "value" "[I", Cond.fieldLink RX2 37 "MajorityIndex$Tree" "number" "[I", Cond.fieldLink RX2 91 "MajorityIndex$Votes" "lost" "I", Cond.fieldLink RX2 28 "MajorityIndex$Tree" "lossOf" "[I", Cond.methodLink RX2 88 yX3_cancel, Cond.instanceMethod yX3_cancel]
def wsX4_loss_r4 : List Cond := [Cond.selects RX3 yX3_cancel yX3_cancel, Cond.code yX3_cancel cX3_cancel 4 none, Cond.methodLink RX3 32 yX3_order, Cond.instanceMethod yX3_order, Cond.selects RX3 yX3_order yX3_order, Cond.code yX3_order cX3_order 3 none, Cond.methodLink RX3 35 yX3_isAhead, Cond.instanceMethod yX3_isAhead, Cond.selects RX3 yX3_isAhead yX3_isAhead, Cond.code yX3_isAhead cX3_isAhead 3 (some .boolean), Cond.methodLink RX3 39 yX3_exchange, Cond.instanceMethod yX3_exchange, Cond.selects RX3 yX3_exchange yX3_exchange, Cond.code yX3_exchange cX3_exchange 5 none, Cond.methodLink RX2 64 yX2_isJoined, Cond.instanceMethod yX2_isJoined, Cond.selects RX2 yX2_isJoined yX2_isJoined, Cond.code yX2_isJoined cX2_isJoined 4 (some .boolean), Cond.fieldLink RX2 94 "MajorityIndex$Votes" "size" "I", Cond.fieldLink RX2 96 "MajorityIndex$Votes" "value" "[I", Cond.fieldLink RX2 97 "MajorityIndex$Votes" "number" "[I", Cond.methodLink RX2 68 yX2_keepJoined, Cond.instanceMethod yX2_keepJoined, Cond.selects RX2 yX2_keepJoined yX2_keepJoined]
def wsX4_loss_r5 : List Cond := [Cond.code yX2_keepJoined cX2_keepJoined 4 none, Cond.methodLink RX2 98 Lib.Math.min.name, Cond.static Lib.Math.min.name, Cond.initialized "java/lang/Math", Cond.code Lib.Math.min.name Lib.Math.min.code 2 (some .int), Cond.fieldLink RX2 31 "MajorityIndex$Tree" "lessBy" "[I", Cond.fieldLink RX2 104 "MajorityIndex$Votes" "lessBy" "I", Cond.methodLink RX4 123 yX2_find, Cond.instanceMethod yX2_find, Cond.selects RX2 yX2_find yX2_find, Cond.code yX2_find cX2_find 4 (some .int)]
def wsX4_loss : List Cond := .code yX4_loss cX4_loss 5 (some .int) :: ((wsX4_loss_r1 ++ (wsX4_loss_r2 ++ (wsX4_loss_r3 ++ (wsX4_loss_r4 ++ wsX4_loss_r5)))) ++ wsX40 ++ wsX20 ++ wsX00 ++ wsX30)
def wsX4_cancelled_r1 : List Cond := [Cond.fieldLink RX4 12 "MajorityIndex" "row" "LMajorityIndex$Row;", Cond.fieldLink RX4 142 "MajorityIndex$Tree" "lessBy" "[I", Cond.methodLink RX4 79 yX0_hasRange, Cond.instanceMethod yX0_hasRange, Cond.selects RX0 yX0_hasRange yX0_hasRange, Cond.initialized RX0, Cond.code yX0_hasRange cX0_hasRange 3 (some .boolean), Cond.fieldLink RX0 15 "MajorityIndex$Row" "length" "I", Cond.methodLink RX4 71 yX4_laidTree, Cond.instanceMethod yX4_laidTree, Cond.selects RX4 yX4_laidTree yX4_laidTree, Cond.initialized RX4, Cond.code yX4_laidTree cX4_laidTree 1 (some (.object "MajorityIndex$Tree")), Cond.fieldLink RX4 53 "MajorityIndex" "treeIsOld" "Z", Cond.fieldLink RX4 21 "MajorityIndex" "tree" "LMajorityIndex$Tree;", Cond.fieldLink RX4 49 "MajorityIndex" "slotsNow" "I", Cond.fieldLink RX4 204 "MajorityIndex$Tree" "slotsHere" "I", Cond.fieldLink RX4 57 "MajorityIndex$Row" "length" "I", Cond.methodLink RX4 259 yX2_layRanges, Cond.instanceMethod yX2_layRanges, Cond.selects RX2 yX2_layRanges yX2_layRanges, Cond.initialized RX2, Cond.code yX2_layRanges cX2_layRanges 2 none, Cond.fieldLink RX2 40 "MajorityIndex$Tree" "row" "LMajorityIndex$Row;"]
def wsX4_cancelled_r2 : List Cond := [Cond.fieldLink RX2 44 "MajorityIndex$Row" "length" "I", Cond.fieldLink RX2 50 "MajorityIndex$Tree" "nodes" "I", Cond.fieldLink RX2 18 "MajorityIndex$Tree" "from" "[I", Cond.fieldLink RX2 22 "MajorityIndex$Tree" "to" "[I", Cond.methodLink RX2 53 yX2_layBelow, Cond.instanceMethod yX2_layBelow, Cond.selects RX2 yX2_layBelow yX2_layBelow, Cond.code yX2_layBelow cX2_layBelow 4 none, Cond.methodLink RX2 57 yX2_rightBelow, Cond.instanceMethod yX2_rightBelow, Cond.selects RX2 yX2_rightBelow yX2_rightBelow, Cond.code yX2_rightBelow cX2_rightBelow 3 (some .int), Cond.methodLink RX4 87 yX2_renew, Cond.instanceMethod yX2_renew, Cond.selects RX2 yX2_renew yX2_renew, Cond.code yX2_renew cX2_renew 5 (some .int), Cond.methodLink RX2 61 yX2_putTogether, Cond.instanceMethod yX2_putTogether, Cond.selects RX2 yX2_putTogether yX2_putTogether, Cond.code yX2_putTogether cX2_putTogether 2 none, Cond.fieldLink RX2 12 "MajorityIndex$Tree" "joined" "LMajorityIndex$Votes;", Cond.fieldLink RX2 74 "MajorityIndex$Row" "cell" "[I", Cond.fieldLink RX2 85 "MajorityIndex$Tree" "slotsHere" "I", Cond.methodLink RX2 71 yX3_clear]
def wsX4_cancelled_r3 : List Cond := [Cond.instanceMethod yX3_clear, Cond.selects RX3 yX3_clear yX3_clear, Cond.initialized RX3, Cond.code yX3_clear cX3_clear 1 none, Cond.fieldLink RX3 18 "MajorityIndex$Votes" "size" "I", Cond.fieldLink RX3 22 "MajorityIndex$Votes" "lost" "I", Cond.fieldLink RX3 25 "MajorityIndex$Votes" "lessBy" "I", Cond.methodLink RX2 77 yX3_add, Cond.instanceMethod yX3_add, Cond.selects RX3 yX3_add yX3_add, Cond.code yX3_add cX3_add 4 none, Cond.fieldLink RX3 9 "MajorityIndex$Votes" "value" "[I", Cond.fieldLink RX3 15 "MajorityIndex$Votes" "number" "[I", Cond.methodLink RX2 81 yX2_joinNode, Cond.instanceMethod yX2_joinNode, Cond.selects RX2 yX2_joinNode yX2_joinNode, Cond.code yX2_joinNode cX2_joinNode 5 none, Cond.fieldLink RX2 25 "MajorityIndex$Tree" "size" "[I", Cond.fieldLink RX2 34 "MajorityIndex$Tree" "value" "[I", Cond.fieldLink RX2 37 "MajorityIndex$Tree" "number" "[I", Cond.fieldLink RX2 91 "MajorityIndex$Votes" "lost" "I", Cond.fieldLink RX2 28 "MajorityIndex$Tree" "lossOf" "[I", Cond.methodLink RX2 88 yX3_cancel, Cond.instanceMethod yX3_cancel]
def wsX4_cancelled_r4 : List Cond := [Cond.selects RX3 yX3_cancel yX3_cancel, Cond.code yX3_cancel cX3_cancel 4 none, Cond.methodLink RX3 32 yX3_order, Cond.instanceMethod yX3_order, Cond.selects RX3 yX3_order yX3_order, Cond.code yX3_order cX3_order 3 none, Cond.methodLink RX3 35 yX3_isAhead, Cond.instanceMethod yX3_isAhead, Cond.selects RX3 yX3_isAhead yX3_isAhead, Cond.code yX3_isAhead cX3_isAhead 3 (some .boolean), Cond.methodLink RX3 39 yX3_exchange, Cond.instanceMethod yX3_exchange, Cond.selects RX3 yX3_exchange yX3_exchange, Cond.code yX3_exchange cX3_exchange 5 none, Cond.methodLink RX2 64 yX2_isJoined, Cond.instanceMethod yX2_isJoined, Cond.selects RX2 yX2_isJoined yX2_isJoined, Cond.code yX2_isJoined cX2_isJoined 4 (some .boolean), Cond.fieldLink RX2 94 "MajorityIndex$Votes" "size" "I", Cond.fieldLink RX2 96 "MajorityIndex$Votes" "value" "[I", Cond.fieldLink RX2 97 "MajorityIndex$Votes" "number" "[I", Cond.methodLink RX2 68 yX2_keepJoined, Cond.instanceMethod yX2_keepJoined, Cond.selects RX2 yX2_keepJoined yX2_keepJoined]
def wsX4_cancelled_r5 : List Cond := [Cond.code yX2_keepJoined cX2_keepJoined 4 none, Cond.methodLink RX2 98 Lib.Math.min.name, Cond.static Lib.Math.min.name, Cond.initialized "java/lang/Math", Cond.code Lib.Math.min.name Lib.Math.min.code 2 (some .int), Cond.fieldLink RX2 31 "MajorityIndex$Tree" "lessBy" "[I", Cond.fieldLink RX2 104 "MajorityIndex$Votes" "lessBy" "I", Cond.methodLink RX4 123 yX2_find, Cond.instanceMethod yX2_find, Cond.selects RX2 yX2_find yX2_find, Cond.code yX2_find cX2_find 4 (some .int)]
def wsX4_cancelled : List Cond := .code yX4_cancelled cX4_cancelled 5 (some .int) :: ((wsX4_cancelled_r1 ++ (wsX4_cancelled_r2 ++ (wsX4_cancelled_r3 ++ (wsX4_cancelled_r4 ++ wsX4_cancelled_r5)))) ++ wsX40 ++ wsX20 ++ wsX00 ++ wsX30)
def wsX4_above_r1 : List Cond := [Cond.fieldLink RX4 12 "MajorityIndex" "row" "LMajorityIndex$Row;", Cond.fieldLink RX4 151 "MajorityIndex$Tree" "from" "[I", Cond.fieldLink RX4 154 "MajorityIndex$Tree" "to" "[I", Cond.fieldLink RX4 110 "MajorityIndex$Row" "cell" "[I", Cond.methodLink RX4 64 yX0_hasPlace, Cond.instanceMethod yX0_hasPlace, Cond.selects RX0 yX0_hasPlace yX0_hasPlace, Cond.initialized RX0, Cond.code yX0_hasPlace cX0_hasPlace 2 (some .boolean), Cond.fieldLink RX0 15 "MajorityIndex$Row" "length" "I", Cond.methodLink RX4 71 yX4_laidTree, Cond.instanceMethod yX4_laidTree, Cond.selects RX4 yX4_laidTree yX4_laidTree, Cond.initialized RX4, Cond.code yX4_laidTree cX4_laidTree 1 (some (.object "MajorityIndex$Tree")), Cond.fieldLink RX4 53 "MajorityIndex" "treeIsOld" "Z", Cond.fieldLink RX4 21 "MajorityIndex" "tree" "LMajorityIndex$Tree;", Cond.fieldLink RX4 49 "MajorityIndex" "slotsNow" "I", Cond.fieldLink RX4 204 "MajorityIndex$Tree" "slotsHere" "I", Cond.fieldLink RX4 57 "MajorityIndex$Row" "length" "I", Cond.methodLink RX4 259 yX2_layRanges, Cond.instanceMethod yX2_layRanges, Cond.selects RX2 yX2_layRanges yX2_layRanges, Cond.initialized RX2]
def wsX4_above_r2 : List Cond := [Cond.code yX2_layRanges cX2_layRanges 2 none, Cond.fieldLink RX2 40 "MajorityIndex$Tree" "row" "LMajorityIndex$Row;", Cond.fieldLink RX2 44 "MajorityIndex$Row" "length" "I", Cond.fieldLink RX2 50 "MajorityIndex$Tree" "nodes" "I", Cond.fieldLink RX2 18 "MajorityIndex$Tree" "from" "[I", Cond.fieldLink RX2 22 "MajorityIndex$Tree" "to" "[I", Cond.methodLink RX2 53 yX2_layBelow, Cond.instanceMethod yX2_layBelow, Cond.selects RX2 yX2_layBelow yX2_layBelow, Cond.code yX2_layBelow cX2_layBelow 4 none, Cond.methodLink RX2 57 yX2_rightBelow, Cond.instanceMethod yX2_rightBelow, Cond.selects RX2 yX2_rightBelow yX2_rightBelow, Cond.code yX2_rightBelow cX2_rightBelow 3 (some .int), Cond.methodLink RX4 87 yX2_renew, Cond.instanceMethod yX2_renew, Cond.selects RX2 yX2_renew yX2_renew, Cond.code yX2_renew cX2_renew 5 (some .int), Cond.methodLink RX2 61 yX2_putTogether, Cond.instanceMethod yX2_putTogether, Cond.selects RX2 yX2_putTogether yX2_putTogether, Cond.code yX2_putTogether cX2_putTogether 2 none, Cond.fieldLink RX2 12 "MajorityIndex$Tree" "joined" "LMajorityIndex$Votes;", Cond.fieldLink RX2 74 "MajorityIndex$Row" "cell" "[I"]
def wsX4_above_r3 : List Cond := [Cond.fieldLink RX2 85 "MajorityIndex$Tree" "slotsHere" "I", Cond.methodLink RX2 71 yX3_clear, Cond.instanceMethod yX3_clear, Cond.selects RX3 yX3_clear yX3_clear, Cond.initialized RX3, Cond.code yX3_clear cX3_clear 1 none, Cond.fieldLink RX3 18 "MajorityIndex$Votes" "size" "I", Cond.fieldLink RX3 22 "MajorityIndex$Votes" "lost" "I", Cond.fieldLink RX3 25 "MajorityIndex$Votes" "lessBy" "I", Cond.methodLink RX2 77 yX3_add, Cond.instanceMethod yX3_add, Cond.selects RX3 yX3_add yX3_add, Cond.code yX3_add cX3_add 4 none, Cond.fieldLink RX3 9 "MajorityIndex$Votes" "value" "[I", Cond.fieldLink RX3 15 "MajorityIndex$Votes" "number" "[I", Cond.methodLink RX2 81 yX2_joinNode, Cond.instanceMethod yX2_joinNode, Cond.selects RX2 yX2_joinNode yX2_joinNode, Cond.code yX2_joinNode cX2_joinNode 5 none, Cond.fieldLink RX2 25 "MajorityIndex$Tree" "size" "[I", Cond.fieldLink RX2 34 "MajorityIndex$Tree" "value" "[I", Cond.fieldLink RX2 37 "MajorityIndex$Tree" "number" "[I", Cond.fieldLink RX2 91 "MajorityIndex$Votes" "lost" "I", Cond.fieldLink RX2 28 "MajorityIndex$Tree" "lossOf" "[I"]
def wsX4_above_r4 : List Cond := [Cond.methodLink RX2 88 yX3_cancel, Cond.instanceMethod yX3_cancel, Cond.selects RX3 yX3_cancel yX3_cancel, Cond.code yX3_cancel cX3_cancel 4 none, Cond.methodLink RX3 32 yX3_order, Cond.instanceMethod yX3_order, Cond.selects RX3 yX3_order yX3_order, Cond.code yX3_order cX3_order 3 none, Cond.methodLink RX3 35 yX3_isAhead, Cond.instanceMethod yX3_isAhead, Cond.selects RX3 yX3_isAhead yX3_isAhead, Cond.code yX3_isAhead cX3_isAhead 3 (some .boolean), Cond.methodLink RX3 39 yX3_exchange, Cond.instanceMethod yX3_exchange, Cond.selects RX3 yX3_exchange yX3_exchange, Cond.code yX3_exchange cX3_exchange 5 none, Cond.methodLink RX2 64 yX2_isJoined, Cond.instanceMethod yX2_isJoined, Cond.selects RX2 yX2_isJoined yX2_isJoined, Cond.code yX2_isJoined cX2_isJoined 4 (some .boolean), Cond.fieldLink RX2 94 "MajorityIndex$Votes" "size" "I", Cond.fieldLink RX2 96 "MajorityIndex$Votes" "value" "[I", Cond.fieldLink RX2 97 "MajorityIndex$Votes" "number" "[I", Cond.methodLink RX2 68 yX2_keepJoined]
def wsX4_above_r5 : List Cond := [Cond.instanceMethod yX2_keepJoined, Cond.selects RX2 yX2_keepJoined yX2_keepJoined, Cond.code yX2_keepJoined cX2_keepJoined 4 none, Cond.methodLink RX2 98 Lib.Math.min.name, Cond.static Lib.Math.min.name, Cond.initialized "java/lang/Math", Cond.code Lib.Math.min.name Lib.Math.min.code 2 (some .int), Cond.fieldLink RX2 31 "MajorityIndex$Tree" "lessBy" "[I", Cond.fieldLink RX2 104 "MajorityIndex$Votes" "lessBy" "I", Cond.methodLink RX4 145 yX2_depthAt, Cond.instanceMethod yX2_depthAt, Cond.selects RX2 yX2_depthAt yX2_depthAt, Cond.code yX2_depthAt cX2_depthAt 4 (some .int), Cond.methodLink RX2 110 yX2_hasPlace, Cond.instanceMethod yX2_hasPlace, Cond.selects RX2 yX2_hasPlace yX2_hasPlace, Cond.code yX2_hasPlace cX2_hasPlace 3 (some .boolean), Cond.methodLink RX4 148 yX2_onPath, Cond.instanceMethod yX2_onPath, Cond.selects RX2 yX2_onPath yX2_onPath, Cond.code yX2_onPath cX2_onPath 5 (some .int), Cond.methodLink RX4 157 yX2_numberIn, Cond.instanceMethod yX2_numberIn, Cond.selects RX2 yX2_numberIn yX2_numberIn]
def wsX4_above_r6 : List Cond := [Cond.code yX2_numberIn cX2_numberIn 5 (some .int)]
def wsX4_above : List Cond := .code yX4_above cX4_above 6 (some .int) :: ((wsX4_above_r1 ++ (wsX4_above_r2 ++ (wsX4_above_r3 ++ (wsX4_above_r4 ++ (wsX4_above_r5 ++ wsX4_above_r6))))) ++ wsX40 ++ wsX20 ++ wsX00 ++ wsX30)
def wsX4_holds_r1 : List Cond := [Cond.fieldLink RX4 12 "MajorityIndex" "row" "LMajorityIndex$Row;", Cond.methodLink RX4 64 yX0_hasPlace, Cond.instanceMethod yX0_hasPlace, Cond.selects RX0 yX0_hasPlace yX0_hasPlace, Cond.initialized RX0, Cond.code yX0_hasPlace cX0_hasPlace 2 (some .boolean), Cond.fieldLink RX0 15 "MajorityIndex$Row" "length" "I", Cond.methodLink RX4 71 yX4_laidTree, Cond.instanceMethod yX4_laidTree, Cond.selects RX4 yX4_laidTree yX4_laidTree, Cond.initialized RX4, Cond.code yX4_laidTree cX4_laidTree 1 (some (.object "MajorityIndex$Tree")), Cond.fieldLink RX4 53 "MajorityIndex" "treeIsOld" "Z", Cond.fieldLink RX4 21 "MajorityIndex" "tree" "LMajorityIndex$Tree;", Cond.fieldLink RX4 49 "MajorityIndex" "slotsNow" "I", Cond.fieldLink RX4 204 "MajorityIndex$Tree" "slotsHere" "I", Cond.fieldLink RX4 57 "MajorityIndex$Row" "length" "I", Cond.methodLink RX4 259 yX2_layRanges, Cond.instanceMethod yX2_layRanges, Cond.selects RX2 yX2_layRanges yX2_layRanges, Cond.initialized RX2, Cond.code yX2_layRanges cX2_layRanges 2 none, Cond.fieldLink RX2 40 "MajorityIndex$Tree" "row" "LMajorityIndex$Row;", Cond.fieldLink RX2 44 "MajorityIndex$Row" "length" "I"]
def wsX4_holds_r2 : List Cond := [Cond.fieldLink RX2 50 "MajorityIndex$Tree" "nodes" "I", Cond.fieldLink RX2 18 "MajorityIndex$Tree" "from" "[I", Cond.fieldLink RX2 22 "MajorityIndex$Tree" "to" "[I", Cond.methodLink RX2 53 yX2_layBelow, Cond.instanceMethod yX2_layBelow, Cond.selects RX2 yX2_layBelow yX2_layBelow, Cond.code yX2_layBelow cX2_layBelow 4 none, Cond.methodLink RX2 57 yX2_rightBelow, Cond.instanceMethod yX2_rightBelow, Cond.selects RX2 yX2_rightBelow yX2_rightBelow, Cond.code yX2_rightBelow cX2_rightBelow 3 (some .int), Cond.methodLink RX4 87 yX2_renew, Cond.instanceMethod yX2_renew, Cond.selects RX2 yX2_renew yX2_renew, Cond.code yX2_renew cX2_renew 5 (some .int), Cond.methodLink RX2 61 yX2_putTogether, Cond.instanceMethod yX2_putTogether, Cond.selects RX2 yX2_putTogether yX2_putTogether, Cond.code yX2_putTogether cX2_putTogether 2 none, Cond.fieldLink RX2 12 "MajorityIndex$Tree" "joined" "LMajorityIndex$Votes;", Cond.fieldLink RX2 74 "MajorityIndex$Row" "cell" "[I", Cond.fieldLink RX2 85 "MajorityIndex$Tree" "slotsHere" "I", Cond.methodLink RX2 71 yX3_clear, Cond.instanceMethod yX3_clear]
def wsX4_holds_r3 : List Cond := [Cond.selects RX3 yX3_clear yX3_clear, Cond.initialized RX3, Cond.code yX3_clear cX3_clear 1 none, Cond.fieldLink RX3 18 "MajorityIndex$Votes" "size" "I", Cond.fieldLink RX3 22 "MajorityIndex$Votes" "lost" "I", Cond.fieldLink RX3 25 "MajorityIndex$Votes" "lessBy" "I", Cond.methodLink RX2 77 yX3_add, Cond.instanceMethod yX3_add, Cond.selects RX3 yX3_add yX3_add, Cond.code yX3_add cX3_add 4 none, Cond.fieldLink RX3 9 "MajorityIndex$Votes" "value" "[I", Cond.fieldLink RX3 15 "MajorityIndex$Votes" "number" "[I", Cond.methodLink RX2 81 yX2_joinNode, Cond.instanceMethod yX2_joinNode, Cond.selects RX2 yX2_joinNode yX2_joinNode, Cond.code yX2_joinNode cX2_joinNode 5 none, Cond.fieldLink RX2 25 "MajorityIndex$Tree" "size" "[I", Cond.fieldLink RX2 34 "MajorityIndex$Tree" "value" "[I", Cond.fieldLink RX2 37 "MajorityIndex$Tree" "number" "[I", Cond.fieldLink RX2 91 "MajorityIndex$Votes" "lost" "I", Cond.fieldLink RX2 28 "MajorityIndex$Tree" "lossOf" "[I", Cond.methodLink RX2 88 yX3_cancel, Cond.instanceMethod yX3_cancel, Cond.selects RX3 yX3_cancel yX3_cancel]
def wsX4_holds_r4 : List Cond := [Cond.code yX3_cancel cX3_cancel 4 none, Cond.methodLink RX3 32 yX3_order, Cond.instanceMethod yX3_order, Cond.selects RX3 yX3_order yX3_order, Cond.code yX3_order cX3_order 3 none, Cond.methodLink RX3 35 yX3_isAhead, Cond.instanceMethod yX3_isAhead, Cond.selects RX3 yX3_isAhead yX3_isAhead, Cond.code yX3_isAhead cX3_isAhead 3 (some .boolean), Cond.methodLink RX3 39 yX3_exchange, Cond.instanceMethod yX3_exchange, Cond.selects RX3 yX3_exchange yX3_exchange, Cond.code yX3_exchange cX3_exchange 5 none, Cond.methodLink RX2 64 yX2_isJoined, Cond.instanceMethod yX2_isJoined, Cond.selects RX2 yX2_isJoined yX2_isJoined, Cond.code yX2_isJoined cX2_isJoined 4 (some .boolean), Cond.fieldLink RX2 94 "MajorityIndex$Votes" "size" "I", Cond.fieldLink RX2 96 "MajorityIndex$Votes" "value" "[I", Cond.fieldLink RX2 97 "MajorityIndex$Votes" "number" "[I", Cond.methodLink RX2 68 yX2_keepJoined, Cond.instanceMethod yX2_keepJoined, Cond.selects RX2 yX2_keepJoined yX2_keepJoined, Cond.code yX2_keepJoined cX2_keepJoined 4 none]
def wsX4_holds_r5 : List Cond := [Cond.methodLink RX2 98 Lib.Math.min.name, Cond.static Lib.Math.min.name, Cond.initialized "java/lang/Math", Cond.code Lib.Math.min.name Lib.Math.min.code 2 (some .int), Cond.fieldLink RX2 31 "MajorityIndex$Tree" "lessBy" "[I", Cond.fieldLink RX2 104 "MajorityIndex$Votes" "lessBy" "I", Cond.methodLink RX4 160 yX2_holding, Cond.instanceMethod yX2_holding, Cond.selects RX2 yX2_holding yX2_holding, Cond.code yX2_holding cX2_holding 4 (some .int), Cond.methodLink RX2 110 yX2_hasPlace, Cond.instanceMethod yX2_hasPlace, Cond.selects RX2 yX2_hasPlace yX2_hasPlace, Cond.code yX2_hasPlace cX2_hasPlace 3 (some .boolean), Cond.methodLink RX2 114 yX2_numberIn, Cond.instanceMethod yX2_numberIn, Cond.selects RX2 yX2_numberIn yX2_numberIn, Cond.code yX2_numberIn cX2_numberIn 5 (some .int)]
def wsX4_holds : List Cond := .code yX4_holds cX4_holds 2 (some .int) :: ((wsX4_holds_r1 ++ (wsX4_holds_r2 ++ (wsX4_holds_r3 ++ (wsX4_holds_r4 ++ wsX4_holds_r5)))) ++ wsX40 ++ wsX00 ++ wsX20 ++ wsX30)
def wsX4_parts_r1 : List Cond := [Cond.fieldLink RX4 12 "MajorityIndex" "row" "LMajorityIndex$Row;", Cond.fieldLink RX4 163 "MajorityIndex$Tree" "nodes" "I", Cond.fieldLink RX4 154 "MajorityIndex$Tree" "to" "[I", Cond.methodLink RX4 79 yX0_hasRange, Cond.instanceMethod yX0_hasRange, Cond.selects RX0 yX0_hasRange yX0_hasRange, Cond.initialized RX0, Cond.code yX0_hasRange cX0_hasRange 3 (some .boolean), Cond.fieldLink RX0 15 "MajorityIndex$Row" "length" "I", Cond.methodLink RX4 71 yX4_laidTree, Cond.instanceMethod yX4_laidTree, Cond.selects RX4 yX4_laidTree yX4_laidTree, Cond.initialized RX4, Cond.code yX4_laidTree cX4_laidTree 1 (some (.object "MajorityIndex$Tree")), Cond.fieldLink RX4 53 "MajorityIndex" "treeIsOld" "Z", Cond.fieldLink RX4 21 "MajorityIndex" "tree" "LMajorityIndex$Tree;", Cond.fieldLink RX4 49 "MajorityIndex" "slotsNow" "I", Cond.fieldLink RX4 204 "MajorityIndex$Tree" "slotsHere" "I", Cond.fieldLink RX4 57 "MajorityIndex$Row" "length" "I", Cond.methodLink RX4 259 yX2_layRanges, Cond.instanceMethod yX2_layRanges, Cond.selects RX2 yX2_layRanges yX2_layRanges, Cond.initialized RX2, Cond.code yX2_layRanges cX2_layRanges 2 none]
def wsX4_parts_r2 : List Cond := [Cond.fieldLink RX2 40 "MajorityIndex$Tree" "row" "LMajorityIndex$Row;", Cond.fieldLink RX2 44 "MajorityIndex$Row" "length" "I", Cond.fieldLink RX2 50 "MajorityIndex$Tree" "nodes" "I", Cond.fieldLink RX2 18 "MajorityIndex$Tree" "from" "[I", Cond.fieldLink RX2 22 "MajorityIndex$Tree" "to" "[I", Cond.methodLink RX2 53 yX2_layBelow, Cond.instanceMethod yX2_layBelow, Cond.selects RX2 yX2_layBelow yX2_layBelow, Cond.code yX2_layBelow cX2_layBelow 4 none, Cond.methodLink RX2 57 yX2_rightBelow, Cond.instanceMethod yX2_rightBelow, Cond.selects RX2 yX2_rightBelow yX2_rightBelow, Cond.code yX2_rightBelow cX2_rightBelow 3 (some .int), Cond.methodLink RX4 87 yX2_renew, Cond.instanceMethod yX2_renew, Cond.selects RX2 yX2_renew yX2_renew, Cond.code yX2_renew cX2_renew 5 (some .int), Cond.methodLink RX2 61 yX2_putTogether, Cond.instanceMethod yX2_putTogether, Cond.selects RX2 yX2_putTogether yX2_putTogether, Cond.code yX2_putTogether cX2_putTogether 2 none, Cond.fieldLink RX2 12 "MajorityIndex$Tree" "joined" "LMajorityIndex$Votes;", Cond.fieldLink RX2 74 "MajorityIndex$Row" "cell" "[I", Cond.fieldLink RX2 85 "MajorityIndex$Tree" "slotsHere" "I"]
def wsX4_parts_r3 : List Cond := [Cond.methodLink RX2 71 yX3_clear, Cond.instanceMethod yX3_clear, Cond.selects RX3 yX3_clear yX3_clear, Cond.initialized RX3, Cond.code yX3_clear cX3_clear 1 none, Cond.fieldLink RX3 18 "MajorityIndex$Votes" "size" "I", Cond.fieldLink RX3 22 "MajorityIndex$Votes" "lost" "I", Cond.fieldLink RX3 25 "MajorityIndex$Votes" "lessBy" "I", Cond.methodLink RX2 77 yX3_add, Cond.instanceMethod yX3_add, Cond.selects RX3 yX3_add yX3_add, Cond.code yX3_add cX3_add 4 none, Cond.fieldLink RX3 9 "MajorityIndex$Votes" "value" "[I", Cond.fieldLink RX3 15 "MajorityIndex$Votes" "number" "[I", Cond.methodLink RX2 81 yX2_joinNode, Cond.instanceMethod yX2_joinNode, Cond.selects RX2 yX2_joinNode yX2_joinNode, Cond.code yX2_joinNode cX2_joinNode 5 none, Cond.fieldLink RX2 25 "MajorityIndex$Tree" "size" "[I", Cond.fieldLink RX2 34 "MajorityIndex$Tree" "value" "[I", Cond.fieldLink RX2 37 "MajorityIndex$Tree" "number" "[I", Cond.fieldLink RX2 91 "MajorityIndex$Votes" "lost" "I", Cond.fieldLink RX2 28 "MajorityIndex$Tree" "lossOf" "[I", Cond.methodLink RX2 88 yX3_cancel]
def wsX4_parts_r4 : List Cond := [Cond.instanceMethod yX3_cancel, Cond.selects RX3 yX3_cancel yX3_cancel, Cond.code yX3_cancel cX3_cancel 4 none, Cond.methodLink RX3 32 yX3_order, Cond.instanceMethod yX3_order, Cond.selects RX3 yX3_order yX3_order, Cond.code yX3_order cX3_order 3 none, Cond.methodLink RX3 35 yX3_isAhead, Cond.instanceMethod yX3_isAhead, Cond.selects RX3 yX3_isAhead yX3_isAhead, Cond.code yX3_isAhead cX3_isAhead 3 (some .boolean), Cond.methodLink RX3 39 yX3_exchange, Cond.instanceMethod yX3_exchange, Cond.selects RX3 yX3_exchange yX3_exchange, Cond.code yX3_exchange cX3_exchange 5 none, Cond.methodLink RX2 64 yX2_isJoined, Cond.instanceMethod yX2_isJoined, Cond.selects RX2 yX2_isJoined yX2_isJoined, Cond.code yX2_isJoined cX2_isJoined 4 (some .boolean), Cond.fieldLink RX2 94 "MajorityIndex$Votes" "size" "I", Cond.fieldLink RX2 96 "MajorityIndex$Votes" "value" "[I", Cond.fieldLink RX2 97 "MajorityIndex$Votes" "number" "[I", Cond.methodLink RX2 68 yX2_keepJoined, Cond.instanceMethod yX2_keepJoined]
def wsX4_parts_r5 : List Cond := [Cond.selects RX2 yX2_keepJoined yX2_keepJoined, Cond.code yX2_keepJoined cX2_keepJoined 4 none, Cond.methodLink RX2 98 Lib.Math.min.name, Cond.static Lib.Math.min.name, Cond.initialized "java/lang/Math", Cond.code Lib.Math.min.name Lib.Math.min.code 2 (some .int), Cond.fieldLink RX2 31 "MajorityIndex$Tree" "lessBy" "[I", Cond.fieldLink RX2 104 "MajorityIndex$Votes" "lessBy" "I", Cond.methodLink RX4 166 yX2_isPart, Cond.instanceMethod yX2_isPart, Cond.selects RX2 yX2_isPart yX2_isPart, Cond.code yX2_isPart cX2_isPart 4 (some .boolean)]
def wsX4_parts : List Cond := .code yX4_parts cX4_parts 7 (some .int) :: ((wsX4_parts_r1 ++ (wsX4_parts_r2 ++ (wsX4_parts_r3 ++ (wsX4_parts_r4 ++ wsX4_parts_r5)))) ++ wsX40 ++ wsX20 ++ wsX00 ++ wsX30)
def wsX4_part_r1 : List Cond := [Cond.fieldLink RX4 12 "MajorityIndex" "row" "LMajorityIndex$Row;", Cond.fieldLink RX4 163 "MajorityIndex$Tree" "nodes" "I", Cond.fieldLink RX4 151 "MajorityIndex$Tree" "from" "[I", Cond.fieldLink RX4 154 "MajorityIndex$Tree" "to" "[I", Cond.methodLink RX4 79 yX0_hasRange, Cond.instanceMethod yX0_hasRange, Cond.selects RX0 yX0_hasRange yX0_hasRange, Cond.initialized RX0, Cond.code yX0_hasRange cX0_hasRange 3 (some .boolean), Cond.fieldLink RX0 15 "MajorityIndex$Row" "length" "I", Cond.methodLink RX4 71 yX4_laidTree, Cond.instanceMethod yX4_laidTree, Cond.selects RX4 yX4_laidTree yX4_laidTree, Cond.initialized RX4, Cond.code yX4_laidTree cX4_laidTree 1 (some (.object "MajorityIndex$Tree")), Cond.fieldLink RX4 53 "MajorityIndex" "treeIsOld" "Z", Cond.fieldLink RX4 21 "MajorityIndex" "tree" "LMajorityIndex$Tree;", Cond.fieldLink RX4 49 "MajorityIndex" "slotsNow" "I", Cond.fieldLink RX4 204 "MajorityIndex$Tree" "slotsHere" "I", Cond.fieldLink RX4 57 "MajorityIndex$Row" "length" "I", Cond.methodLink RX4 259 yX2_layRanges, Cond.instanceMethod yX2_layRanges, Cond.selects RX2 yX2_layRanges yX2_layRanges, Cond.initialized RX2]
def wsX4_part_r2 : List Cond := [Cond.code yX2_layRanges cX2_layRanges 2 none, Cond.fieldLink RX2 40 "MajorityIndex$Tree" "row" "LMajorityIndex$Row;", Cond.fieldLink RX2 44 "MajorityIndex$Row" "length" "I", Cond.fieldLink RX2 50 "MajorityIndex$Tree" "nodes" "I", Cond.fieldLink RX2 18 "MajorityIndex$Tree" "from" "[I", Cond.fieldLink RX2 22 "MajorityIndex$Tree" "to" "[I", Cond.methodLink RX2 53 yX2_layBelow, Cond.instanceMethod yX2_layBelow, Cond.selects RX2 yX2_layBelow yX2_layBelow, Cond.code yX2_layBelow cX2_layBelow 4 none, Cond.methodLink RX2 57 yX2_rightBelow, Cond.instanceMethod yX2_rightBelow, Cond.selects RX2 yX2_rightBelow yX2_rightBelow, Cond.code yX2_rightBelow cX2_rightBelow 3 (some .int), Cond.methodLink RX4 87 yX2_renew, Cond.instanceMethod yX2_renew, Cond.selects RX2 yX2_renew yX2_renew, Cond.code yX2_renew cX2_renew 5 (some .int), Cond.methodLink RX2 61 yX2_putTogether, Cond.instanceMethod yX2_putTogether, Cond.selects RX2 yX2_putTogether yX2_putTogether, Cond.code yX2_putTogether cX2_putTogether 2 none, Cond.fieldLink RX2 12 "MajorityIndex$Tree" "joined" "LMajorityIndex$Votes;", Cond.fieldLink RX2 74 "MajorityIndex$Row" "cell" "[I"]
def wsX4_part_r3 : List Cond := [Cond.fieldLink RX2 85 "MajorityIndex$Tree" "slotsHere" "I", Cond.methodLink RX2 71 yX3_clear, Cond.instanceMethod yX3_clear, Cond.selects RX3 yX3_clear yX3_clear, Cond.initialized RX3, Cond.code yX3_clear cX3_clear 1 none, Cond.fieldLink RX3 18 "MajorityIndex$Votes" "size" "I", Cond.fieldLink RX3 22 "MajorityIndex$Votes" "lost" "I", Cond.fieldLink RX3 25 "MajorityIndex$Votes" "lessBy" "I", Cond.methodLink RX2 77 yX3_add, Cond.instanceMethod yX3_add, Cond.selects RX3 yX3_add yX3_add, Cond.code yX3_add cX3_add 4 none, Cond.fieldLink RX3 9 "MajorityIndex$Votes" "value" "[I", Cond.fieldLink RX3 15 "MajorityIndex$Votes" "number" "[I", Cond.methodLink RX2 81 yX2_joinNode, Cond.instanceMethod yX2_joinNode, Cond.selects RX2 yX2_joinNode yX2_joinNode, Cond.code yX2_joinNode cX2_joinNode 5 none, Cond.fieldLink RX2 25 "MajorityIndex$Tree" "size" "[I", Cond.fieldLink RX2 34 "MajorityIndex$Tree" "value" "[I", Cond.fieldLink RX2 37 "MajorityIndex$Tree" "number" "[I", Cond.fieldLink RX2 91 "MajorityIndex$Votes" "lost" "I", Cond.fieldLink RX2 28 "MajorityIndex$Tree" "lossOf" "[I"]
def wsX4_part_r4 : List Cond := [Cond.methodLink RX2 88 yX3_cancel, Cond.instanceMethod yX3_cancel, Cond.selects RX3 yX3_cancel yX3_cancel, Cond.code yX3_cancel cX3_cancel 4 none, Cond.methodLink RX3 32 yX3_order, Cond.instanceMethod yX3_order, Cond.selects RX3 yX3_order yX3_order, Cond.code yX3_order cX3_order 3 none, Cond.methodLink RX3 35 yX3_isAhead, Cond.instanceMethod yX3_isAhead, Cond.selects RX3 yX3_isAhead yX3_isAhead, Cond.code yX3_isAhead cX3_isAhead 3 (some .boolean), Cond.methodLink RX3 39 yX3_exchange, Cond.instanceMethod yX3_exchange, Cond.selects RX3 yX3_exchange yX3_exchange, Cond.code yX3_exchange cX3_exchange 5 none, Cond.methodLink RX2 64 yX2_isJoined, Cond.instanceMethod yX2_isJoined, Cond.selects RX2 yX2_isJoined yX2_isJoined, Cond.code yX2_isJoined cX2_isJoined 4 (some .boolean), Cond.fieldLink RX2 94 "MajorityIndex$Votes" "size" "I", Cond.fieldLink RX2 96 "MajorityIndex$Votes" "value" "[I", Cond.fieldLink RX2 97 "MajorityIndex$Votes" "number" "[I", Cond.methodLink RX2 68 yX2_keepJoined]
def wsX4_part_r5 : List Cond := [Cond.instanceMethod yX2_keepJoined, Cond.selects RX2 yX2_keepJoined yX2_keepJoined, Cond.code yX2_keepJoined cX2_keepJoined 4 none, Cond.methodLink RX2 98 Lib.Math.min.name, Cond.static Lib.Math.min.name, Cond.initialized "java/lang/Math", Cond.code Lib.Math.min.name Lib.Math.min.code 2 (some .int), Cond.fieldLink RX2 31 "MajorityIndex$Tree" "lessBy" "[I", Cond.fieldLink RX2 104 "MajorityIndex$Votes" "lessBy" "I", Cond.methodLink RX4 166 yX2_isPart, Cond.instanceMethod yX2_isPart, Cond.selects RX2 yX2_isPart yX2_isPart, Cond.code yX2_isPart cX2_isPart 4 (some .boolean)]
def wsX4_part : List Cond := .code yX4_part cX4_part 9 (some .int) :: ((wsX4_part_r1 ++ (wsX4_part_r2 ++ (wsX4_part_r3 ++ (wsX4_part_r4 ++ wsX4_part_r5)))) ++ wsX40 ++ wsX20 ++ wsX00 ++ wsX30)
def wsX4_summary_r1 : List Cond := [Cond.fieldLink RX4 12 "MajorityIndex" "row" "LMajorityIndex$Row;", Cond.fieldLink RX4 35 "MajorityIndex" "votes" "LMajorityIndex$Votes;", Cond.fieldLink RX4 174 "MajorityIndex$Votes" "size" "I", Cond.fieldLink RX4 180 "MajorityIndex$Votes" "lost" "I", Cond.methodLink RX4 79 yX0_hasRange, Cond.instanceMethod yX0_hasRange, Cond.selects RX0 yX0_hasRange yX0_hasRange, Cond.initialized RX0, Cond.code yX0_hasRange cX0_hasRange 3 (some .boolean), Cond.fieldLink RX0 15 "MajorityIndex$Row" "length" "I", Cond.methodLink RX4 71 yX4_laidTree, Cond.instanceMethod yX4_laidTree, Cond.selects RX4 yX4_laidTree yX4_laidTree, Cond.initialized RX4, Cond.code yX4_laidTree cX4_laidTree 1 (some (.object "MajorityIndex$Tree")), Cond.fieldLink RX4 53 "MajorityIndex" "treeIsOld" "Z", Cond.fieldLink RX4 21 "MajorityIndex" "tree" "LMajorityIndex$Tree;", Cond.fieldLink RX4 49 "MajorityIndex" "slotsNow" "I", Cond.fieldLink RX4 204 "MajorityIndex$Tree" "slotsHere" "I", Cond.fieldLink RX4 57 "MajorityIndex$Row" "length" "I", Cond.methodLink RX4 259 yX2_layRanges, Cond.instanceMethod yX2_layRanges, Cond.selects RX2 yX2_layRanges yX2_layRanges, Cond.initialized RX2]
def wsX4_summary_r2 : List Cond := [Cond.code yX2_layRanges cX2_layRanges 2 none, Cond.fieldLink RX2 40 "MajorityIndex$Tree" "row" "LMajorityIndex$Row;", Cond.fieldLink RX2 44 "MajorityIndex$Row" "length" "I", Cond.fieldLink RX2 50 "MajorityIndex$Tree" "nodes" "I", Cond.fieldLink RX2 18 "MajorityIndex$Tree" "from" "[I", Cond.fieldLink RX2 22 "MajorityIndex$Tree" "to" "[I", Cond.methodLink RX2 53 yX2_layBelow, Cond.instanceMethod yX2_layBelow, Cond.selects RX2 yX2_layBelow yX2_layBelow, Cond.code yX2_layBelow cX2_layBelow 4 none, Cond.methodLink RX2 57 yX2_rightBelow, Cond.instanceMethod yX2_rightBelow, Cond.selects RX2 yX2_rightBelow yX2_rightBelow, Cond.code yX2_rightBelow cX2_rightBelow 3 (some .int), Cond.methodLink RX4 87 yX2_renew, Cond.instanceMethod yX2_renew, Cond.selects RX2 yX2_renew yX2_renew, Cond.code yX2_renew cX2_renew 5 (some .int), Cond.methodLink RX2 61 yX2_putTogether, Cond.instanceMethod yX2_putTogether, Cond.selects RX2 yX2_putTogether yX2_putTogether, Cond.code yX2_putTogether cX2_putTogether 2 none, Cond.fieldLink RX2 12 "MajorityIndex$Tree" "joined" "LMajorityIndex$Votes;", Cond.fieldLink RX2 74 "MajorityIndex$Row" "cell" "[I"]
def wsX4_summary_r3 : List Cond := [Cond.fieldLink RX2 85 "MajorityIndex$Tree" "slotsHere" "I", Cond.methodLink RX2 71 yX3_clear, Cond.instanceMethod yX3_clear, Cond.selects RX3 yX3_clear yX3_clear, Cond.initialized RX3, Cond.code yX3_clear cX3_clear 1 none, Cond.fieldLink RX3 18 "MajorityIndex$Votes" "size" "I", Cond.fieldLink RX3 22 "MajorityIndex$Votes" "lost" "I", Cond.fieldLink RX3 25 "MajorityIndex$Votes" "lessBy" "I", Cond.methodLink RX2 77 yX3_add, Cond.instanceMethod yX3_add, Cond.selects RX3 yX3_add yX3_add, Cond.code yX3_add cX3_add 4 none, Cond.fieldLink RX3 9 "MajorityIndex$Votes" "value" "[I", Cond.fieldLink RX3 15 "MajorityIndex$Votes" "number" "[I", Cond.methodLink RX2 81 yX2_joinNode, Cond.instanceMethod yX2_joinNode, Cond.selects RX2 yX2_joinNode yX2_joinNode, Cond.code yX2_joinNode cX2_joinNode 5 none, Cond.fieldLink RX2 25 "MajorityIndex$Tree" "size" "[I", Cond.fieldLink RX2 34 "MajorityIndex$Tree" "value" "[I", Cond.fieldLink RX2 37 "MajorityIndex$Tree" "number" "[I", Cond.fieldLink RX2 91 "MajorityIndex$Votes" "lost" "I", Cond.fieldLink RX2 28 "MajorityIndex$Tree" "lossOf" "[I"]
def wsX4_summary_r4 : List Cond := [Cond.methodLink RX2 88 yX3_cancel, Cond.instanceMethod yX3_cancel, Cond.selects RX3 yX3_cancel yX3_cancel, Cond.code yX3_cancel cX3_cancel 4 none, Cond.methodLink RX3 32 yX3_order, Cond.instanceMethod yX3_order, Cond.selects RX3 yX3_order yX3_order, Cond.code yX3_order cX3_order 3 none, Cond.methodLink RX3 35 yX3_isAhead, Cond.instanceMethod yX3_isAhead, Cond.selects RX3 yX3_isAhead yX3_isAhead, Cond.code yX3_isAhead cX3_isAhead 3 (some .boolean), Cond.methodLink RX3 39 yX3_exchange, Cond.instanceMethod yX3_exchange, Cond.selects RX3 yX3_exchange yX3_exchange, Cond.code yX3_exchange cX3_exchange 5 none, Cond.methodLink RX2 64 yX2_isJoined, Cond.instanceMethod yX2_isJoined, Cond.selects RX2 yX2_isJoined yX2_isJoined, Cond.code yX2_isJoined cX2_isJoined 4 (some .boolean), Cond.fieldLink RX2 94 "MajorityIndex$Votes" "size" "I", Cond.fieldLink RX2 96 "MajorityIndex$Votes" "value" "[I", Cond.fieldLink RX2 97 "MajorityIndex$Votes" "number" "[I", Cond.methodLink RX2 68 yX2_keepJoined]
def wsX4_summary_r5 : List Cond := [Cond.instanceMethod yX2_keepJoined, Cond.selects RX2 yX2_keepJoined yX2_keepJoined, Cond.code yX2_keepJoined cX2_keepJoined 4 none, Cond.methodLink RX2 98 Lib.Math.min.name, Cond.static Lib.Math.min.name, Cond.initialized "java/lang/Math", Cond.code Lib.Math.min.name Lib.Math.min.code 2 (some .int), Cond.fieldLink RX2 31 "MajorityIndex$Tree" "lessBy" "[I", Cond.fieldLink RX2 104 "MajorityIndex$Votes" "lessBy" "I", Cond.methodLink RX4 170 yX2_gather, Cond.instanceMethod yX2_gather, Cond.selects RX2 yX2_gather yX2_gather, Cond.code yX2_gather cX2_gather 6 none, Cond.methodLink RX2 106 yX2_isPart, Cond.instanceMethod yX2_isPart, Cond.selects RX2 yX2_isPart yX2_isPart, Cond.code yX2_isPart cX2_isPart 4 (some .boolean), Cond.methodLink RX4 176 yX3_total, Cond.instanceMethod yX3_total, Cond.selects RX3 yX3_total yX3_total, Cond.code yX3_total cX3_total 3 (some .int)]
def wsX4_summary : List Cond := .code yX4_summary cX4_summary 4 (some .int) :: ((wsX4_summary_r1 ++ (wsX4_summary_r2 ++ (wsX4_summary_r3 ++ (wsX4_summary_r4 ++ wsX4_summary_r5)))) ++ wsX40 ++ wsX30 ++ wsX00 ++ wsX20)
def wsX4_lost_r1 : List Cond := [Cond.fieldLink RX4 12 "MajorityIndex" "row" "LMajorityIndex$Row;", Cond.fieldLink RX4 35 "MajorityIndex" "votes" "LMajorityIndex$Votes;", Cond.methodLink RX4 68 yX4_isValue, Cond.static yX4_isValue, Cond.initialized RX4, Cond.code yX4_isValue cX4_isValue 1 (some .boolean), Cond.methodLink RX4 79 yX0_hasRange, Cond.instanceMethod yX0_hasRange, Cond.selects RX0 yX0_hasRange yX0_hasRange, Cond.initialized RX0, Cond.code yX0_hasRange cX0_hasRange 3 (some .boolean), Cond.fieldLink RX0 15 "MajorityIndex$Row" "length" "I", Cond.methodLink RX4 71 yX4_laidTree, Cond.instanceMethod yX4_laidTree, Cond.selects RX4 yX4_laidTree yX4_laidTree, Cond.code yX4_laidTree cX4_laidTree 1 (some (.object "MajorityIndex$Tree")), Cond.fieldLink RX4 53 "MajorityIndex" "treeIsOld" "Z", Cond.fieldLink RX4 21 "MajorityIndex" "tree" "LMajorityIndex$Tree;", Cond.fieldLink RX4 49 "MajorityIndex" "slotsNow" "I", Cond.fieldLink RX4 204 "MajorityIndex$Tree" "slotsHere" "I", Cond.fieldLink RX4 57 "MajorityIndex$Row" "length" "I", Cond.methodLink RX4 259 yX2_layRanges, Cond.instanceMethod yX2_layRanges, Cond.selects RX2 yX2_layRanges yX2_layRanges]
def wsX4_lost_r2 : List Cond := [Cond.initialized RX2, Cond.code yX2_layRanges cX2_layRanges 2 none, Cond.fieldLink RX2 40 "MajorityIndex$Tree" "row" "LMajorityIndex$Row;", Cond.fieldLink RX2 44 "MajorityIndex$Row" "length" "I", Cond.fieldLink RX2 50 "MajorityIndex$Tree" "nodes" "I", Cond.fieldLink RX2 18 "MajorityIndex$Tree" "from" "[I", Cond.fieldLink RX2 22 "MajorityIndex$Tree" "to" "[I", Cond.methodLink RX2 53 yX2_layBelow, Cond.instanceMethod yX2_layBelow, Cond.selects RX2 yX2_layBelow yX2_layBelow, Cond.code yX2_layBelow cX2_layBelow 4 none, Cond.methodLink RX2 57 yX2_rightBelow, Cond.instanceMethod yX2_rightBelow, Cond.selects RX2 yX2_rightBelow yX2_rightBelow, Cond.code yX2_rightBelow cX2_rightBelow 3 (some .int), Cond.methodLink RX4 87 yX2_renew, Cond.instanceMethod yX2_renew, Cond.selects RX2 yX2_renew yX2_renew, Cond.code yX2_renew cX2_renew 5 (some .int), Cond.methodLink RX2 61 yX2_putTogether, Cond.instanceMethod yX2_putTogether, Cond.selects RX2 yX2_putTogether yX2_putTogether, Cond.code yX2_putTogether cX2_putTogether 2 none, Cond.fieldLink RX2 12 "MajorityIndex$Tree" "joined" "LMajorityIndex$Votes;"]
def wsX4_lost_r3 : List Cond := [Cond.fieldLink RX2 74 "MajorityIndex$Row" "cell" "[I", Cond.fieldLink RX2 85 "MajorityIndex$Tree" "slotsHere" "I", Cond.methodLink RX2 71 yX3_clear, Cond.instanceMethod yX3_clear, Cond.selects RX3 yX3_clear yX3_clear, Cond.initialized RX3, Cond.code yX3_clear cX3_clear 1 none, Cond.fieldLink RX3 18 "MajorityIndex$Votes" "size" "I", Cond.fieldLink RX3 22 "MajorityIndex$Votes" "lost" "I", Cond.fieldLink RX3 25 "MajorityIndex$Votes" "lessBy" "I", Cond.methodLink RX2 77 yX3_add, Cond.instanceMethod yX3_add, Cond.selects RX3 yX3_add yX3_add, Cond.code yX3_add cX3_add 4 none, Cond.fieldLink RX3 9 "MajorityIndex$Votes" "value" "[I", Cond.fieldLink RX3 15 "MajorityIndex$Votes" "number" "[I", Cond.methodLink RX2 81 yX2_joinNode, Cond.instanceMethod yX2_joinNode, Cond.selects RX2 yX2_joinNode yX2_joinNode, Cond.code yX2_joinNode cX2_joinNode 5 none, Cond.fieldLink RX2 25 "MajorityIndex$Tree" "size" "[I", Cond.fieldLink RX2 34 "MajorityIndex$Tree" "value" "[I", Cond.fieldLink RX2 37 "MajorityIndex$Tree" "number" "[I", Cond.fieldLink RX2 91 "MajorityIndex$Votes" "lost" "I"]
def wsX4_lost_r4 : List Cond := [Cond.fieldLink RX2 28 "MajorityIndex$Tree" "lossOf" "[I", Cond.methodLink RX2 88 yX3_cancel, Cond.instanceMethod yX3_cancel, Cond.selects RX3 yX3_cancel yX3_cancel, Cond.code yX3_cancel cX3_cancel 4 none, Cond.methodLink RX3 32 yX3_order, Cond.instanceMethod yX3_order, Cond.selects RX3 yX3_order yX3_order, Cond.code yX3_order cX3_order 3 none, Cond.methodLink RX3 35 yX3_isAhead, Cond.instanceMethod yX3_isAhead, Cond.selects RX3 yX3_isAhead yX3_isAhead, Cond.code yX3_isAhead cX3_isAhead 3 (some .boolean), Cond.methodLink RX3 39 yX3_exchange, Cond.instanceMethod yX3_exchange, Cond.selects RX3 yX3_exchange yX3_exchange, Cond.code yX3_exchange cX3_exchange 5 none, Cond.methodLink RX2 64 yX2_isJoined, Cond.instanceMethod yX2_isJoined, Cond.selects RX2 yX2_isJoined yX2_isJoined, Cond.code yX2_isJoined cX2_isJoined 4 (some .boolean), Cond.fieldLink RX2 94 "MajorityIndex$Votes" "size" "I", Cond.fieldLink RX2 96 "MajorityIndex$Votes" "value" "[I", Cond.fieldLink RX2 97 "MajorityIndex$Votes" "number" "[I"]
def wsX4_lost_r5 : List Cond := [Cond.methodLink RX2 68 yX2_keepJoined, Cond.instanceMethod yX2_keepJoined, Cond.selects RX2 yX2_keepJoined yX2_keepJoined, Cond.code yX2_keepJoined cX2_keepJoined 4 none, Cond.methodLink RX2 98 Lib.Math.min.name, Cond.static Lib.Math.min.name, Cond.initialized "java/lang/Math", Cond.code Lib.Math.min.name Lib.Math.min.code 2 (some .int), Cond.fieldLink RX2 31 "MajorityIndex$Tree" "lessBy" "[I", Cond.fieldLink RX2 104 "MajorityIndex$Votes" "lessBy" "I", Cond.methodLink RX4 170 yX2_gather, Cond.instanceMethod yX2_gather, Cond.selects RX2 yX2_gather yX2_gather, Cond.code yX2_gather cX2_gather 6 none, Cond.methodLink RX2 106 yX2_isPart, Cond.instanceMethod yX2_isPart, Cond.selects RX2 yX2_isPart yX2_isPart, Cond.code yX2_isPart cX2_isPart 4 (some .boolean), Cond.methodLink RX4 113 yX0_oftenIn, Cond.instanceMethod yX0_oftenIn, Cond.selects RX0 yX0_oftenIn yX0_oftenIn, Cond.code yX0_oftenIn cX0_oftenIn 6 (some .int), Cond.fieldLink RX0 9 "MajorityIndex$Row" "cell" "[I", Cond.methodLink RX4 183 yX3_numberOf]
def wsX4_lost_r6 : List Cond := [Cond.instanceMethod yX3_numberOf, Cond.selects RX3 yX3_numberOf yX3_numberOf, Cond.code yX3_numberOf cX3_numberOf 3 (some .int)]
def wsX4_lost : List Cond := .code yX4_lost cX4_lost 4 (some .int) :: ((wsX4_lost_r1 ++ (wsX4_lost_r2 ++ (wsX4_lost_r3 ++ (wsX4_lost_r4 ++ (wsX4_lost_r5 ++ wsX4_lost_r6))))) ++ wsX40 ++ wsX00 ++ wsX20 ++ wsX30)
def wsX4_surely_r1 : List Cond := [Cond.fieldLink RX4 12 "MajorityIndex" "row" "LMajorityIndex$Row;", Cond.constant RX4 102 (-40000), Cond.fieldLink RX4 35 "MajorityIndex" "votes" "LMajorityIndex$Votes;", Cond.fieldLink RX4 174 "MajorityIndex$Votes" "size" "I", Cond.fieldLink RX4 136 "MajorityIndex$Votes" "number" "[I", Cond.fieldLink RX4 180 "MajorityIndex$Votes" "lost" "I", Cond.fieldLink RX4 133 "MajorityIndex$Votes" "value" "[I", Cond.methodLink RX4 79 yX0_hasRange, Cond.instanceMethod yX0_hasRange, Cond.selects RX0 yX0_hasRange yX0_hasRange, Cond.initialized RX0, Cond.code yX0_hasRange cX0_hasRange 3 (some .boolean), Cond.fieldLink RX0 15 "MajorityIndex$Row" "length" "I", Cond.methodLink RX4 71 yX4_laidTree, Cond.instanceMethod yX4_laidTree, Cond.selects RX4 yX4_laidTree yX4_laidTree, Cond.initialized RX4, Cond.code yX4_laidTree cX4_laidTree 1 (some (.object "MajorityIndex$Tree")), Cond.fieldLink RX4 53 "MajorityIndex" "treeIsOld" "Z", Cond.fieldLink RX4 21 "MajorityIndex" "tree" "LMajorityIndex$Tree;", Cond.fieldLink RX4 49 "MajorityIndex" "slotsNow" "I", Cond.fieldLink RX4 204 "MajorityIndex$Tree" "slotsHere" "I", Cond.fieldLink RX4 57 "MajorityIndex$Row" "length" "I", Cond.methodLink RX4 259 yX2_layRanges]
def wsX4_surely_r2 : List Cond := [Cond.instanceMethod yX2_layRanges, Cond.selects RX2 yX2_layRanges yX2_layRanges, Cond.initialized RX2, Cond.code yX2_layRanges cX2_layRanges 2 none, Cond.fieldLink RX2 40 "MajorityIndex$Tree" "row" "LMajorityIndex$Row;", Cond.fieldLink RX2 44 "MajorityIndex$Row" "length" "I", Cond.fieldLink RX2 50 "MajorityIndex$Tree" "nodes" "I", Cond.fieldLink RX2 18 "MajorityIndex$Tree" "from" "[I", Cond.fieldLink RX2 22 "MajorityIndex$Tree" "to" "[I", Cond.methodLink RX2 53 yX2_layBelow, Cond.instanceMethod yX2_layBelow, Cond.selects RX2 yX2_layBelow yX2_layBelow, Cond.code yX2_layBelow cX2_layBelow 4 none, Cond.methodLink RX2 57 yX2_rightBelow, Cond.instanceMethod yX2_rightBelow, Cond.selects RX2 yX2_rightBelow yX2_rightBelow, Cond.code yX2_rightBelow cX2_rightBelow 3 (some .int), Cond.methodLink RX4 87 yX2_renew, Cond.instanceMethod yX2_renew, Cond.selects RX2 yX2_renew yX2_renew, Cond.code yX2_renew cX2_renew 5 (some .int), Cond.methodLink RX2 61 yX2_putTogether, Cond.instanceMethod yX2_putTogether, Cond.selects RX2 yX2_putTogether yX2_putTogether]
def wsX4_surely_r3 : List Cond := [Cond.code yX2_putTogether cX2_putTogether 2 none, Cond.fieldLink RX2 12 "MajorityIndex$Tree" "joined" "LMajorityIndex$Votes;", Cond.fieldLink RX2 74 "MajorityIndex$Row" "cell" "[I", Cond.fieldLink RX2 85 "MajorityIndex$Tree" "slotsHere" "I", Cond.methodLink RX2 71 yX3_clear, Cond.instanceMethod yX3_clear, Cond.selects RX3 yX3_clear yX3_clear, Cond.initialized RX3, Cond.code yX3_clear cX3_clear 1 none, Cond.fieldLink RX3 18 "MajorityIndex$Votes" "size" "I", Cond.fieldLink RX3 22 "MajorityIndex$Votes" "lost" "I", Cond.fieldLink RX3 25 "MajorityIndex$Votes" "lessBy" "I", Cond.methodLink RX2 77 yX3_add, Cond.instanceMethod yX3_add, Cond.selects RX3 yX3_add yX3_add, Cond.code yX3_add cX3_add 4 none, Cond.fieldLink RX3 9 "MajorityIndex$Votes" "value" "[I", Cond.fieldLink RX3 15 "MajorityIndex$Votes" "number" "[I", Cond.methodLink RX2 81 yX2_joinNode, Cond.instanceMethod yX2_joinNode, Cond.selects RX2 yX2_joinNode yX2_joinNode, Cond.code yX2_joinNode cX2_joinNode 5 none, Cond.fieldLink RX2 25 "MajorityIndex$Tree" "size" "[I", Cond.fieldLink RX2 34 "MajorityIndex$Tree" "value" "[I"]
def wsX4_surely_r4 : List Cond := [Cond.fieldLink RX2 37 "MajorityIndex$Tree" "number" "[I", Cond.fieldLink RX2 91 "MajorityIndex$Votes" "lost" "I", Cond.fieldLink RX2 28 "MajorityIndex$Tree" "lossOf" "[I", Cond.methodLink RX2 88 yX3_cancel, Cond.instanceMethod yX3_cancel, Cond.selects RX3 yX3_cancel yX3_cancel, Cond.code yX3_cancel cX3_cancel 4 none, Cond.methodLink RX3 32 yX3_order, Cond.instanceMethod yX3_order, Cond.selects RX3 yX3_order yX3_order, Cond.code yX3_order cX3_order 3 none, Cond.methodLink RX3 35 yX3_isAhead, Cond.instanceMethod yX3_isAhead, Cond.selects RX3 yX3_isAhead yX3_isAhead, Cond.code yX3_isAhead cX3_isAhead 3 (some .boolean), Cond.methodLink RX3 39 yX3_exchange, Cond.instanceMethod yX3_exchange, Cond.selects RX3 yX3_exchange yX3_exchange, Cond.code yX3_exchange cX3_exchange 5 none, Cond.methodLink RX2 64 yX2_isJoined, Cond.instanceMethod yX2_isJoined, Cond.selects RX2 yX2_isJoined yX2_isJoined, Cond.code yX2_isJoined cX2_isJoined 4 (some .boolean), Cond.fieldLink RX2 94 "MajorityIndex$Votes" "size" "I"]
def wsX4_surely_r5 : List Cond := [Cond.fieldLink RX2 96 "MajorityIndex$Votes" "value" "[I", Cond.fieldLink RX2 97 "MajorityIndex$Votes" "number" "[I", Cond.methodLink RX2 68 yX2_keepJoined, Cond.instanceMethod yX2_keepJoined, Cond.selects RX2 yX2_keepJoined yX2_keepJoined, Cond.code yX2_keepJoined cX2_keepJoined 4 none, Cond.methodLink RX2 98 Lib.Math.min.name, Cond.static Lib.Math.min.name, Cond.initialized "java/lang/Math", Cond.code Lib.Math.min.name Lib.Math.min.code 2 (some .int), Cond.fieldLink RX2 31 "MajorityIndex$Tree" "lessBy" "[I", Cond.fieldLink RX2 104 "MajorityIndex$Votes" "lessBy" "I", Cond.methodLink RX4 170 yX2_gather, Cond.instanceMethod yX2_gather, Cond.selects RX2 yX2_gather yX2_gather, Cond.code yX2_gather cX2_gather 6 none, Cond.methodLink RX2 106 yX2_isPart, Cond.instanceMethod yX2_isPart, Cond.selects RX2 yX2_isPart yX2_isPart, Cond.code yX2_isPart cX2_isPart 4 (some .boolean)]
def wsX4_surely : List Cond := .code yX4_surely cX4_surely 4 (some .int) :: ((wsX4_surely_r1 ++ (wsX4_surely_r2 ++ (wsX4_surely_r3 ++ (wsX4_surely_r4 ++ wsX4_surely_r5)))) ++ wsX40 ++ wsX30 ++ wsX00 ++ wsX20)
def wsX4_isShare : List Cond := .code yX4_isShare cX4_isShare 2 (some .boolean) :: ([])
def wsX4_heavy_r1 : List Cond := [Cond.fieldLink RX4 12 "MajorityIndex" "row" "LMajorityIndex$Row;", Cond.fieldLink RX4 35 "MajorityIndex" "votes" "LMajorityIndex$Votes;", Cond.fieldLink RX4 174 "MajorityIndex$Votes" "size" "I", Cond.methodLink RX4 79 yX0_hasRange, Cond.instanceMethod yX0_hasRange, Cond.selects RX0 yX0_hasRange yX0_hasRange, Cond.initialized RX0, Cond.code yX0_hasRange cX0_hasRange 3 (some .boolean), Cond.fieldLink RX0 15 "MajorityIndex$Row" "length" "I", Cond.methodLink RX4 186 yX4_isShare, Cond.static yX4_isShare, Cond.initialized RX4, Cond.code yX4_isShare cX4_isShare 2 (some .boolean), Cond.methodLink RX4 189 yX4_isEnough, Cond.instanceMethod yX4_isEnough, Cond.selects RX4 yX4_isEnough yX4_isEnough, Cond.code yX4_isEnough cX4_isEnough 3 (some .boolean), Cond.fieldLink RX4 49 "MajorityIndex" "slotsNow" "I", Cond.methodLink RX4 71 yX4_laidTree, Cond.instanceMethod yX4_laidTree, Cond.selects RX4 yX4_laidTree yX4_laidTree, Cond.code yX4_laidTree cX4_laidTree 1 (some (.object "MajorityIndex$Tree")), Cond.fieldLink RX4 53 "MajorityIndex" "treeIsOld" "Z", Cond.fieldLink RX4 21 "MajorityIndex" "tree" "LMajorityIndex$Tree;"]
def wsX4_heavy_r2 : List Cond := [Cond.fieldLink RX4 204 "MajorityIndex$Tree" "slotsHere" "I", Cond.fieldLink RX4 57 "MajorityIndex$Row" "length" "I", Cond.methodLink RX4 259 yX2_layRanges, Cond.instanceMethod yX2_layRanges, Cond.selects RX2 yX2_layRanges yX2_layRanges, Cond.initialized RX2, Cond.code yX2_layRanges cX2_layRanges 2 none, Cond.fieldLink RX2 40 "MajorityIndex$Tree" "row" "LMajorityIndex$Row;", Cond.fieldLink RX2 44 "MajorityIndex$Row" "length" "I", Cond.fieldLink RX2 50 "MajorityIndex$Tree" "nodes" "I", Cond.fieldLink RX2 18 "MajorityIndex$Tree" "from" "[I", Cond.fieldLink RX2 22 "MajorityIndex$Tree" "to" "[I", Cond.methodLink RX2 53 yX2_layBelow, Cond.instanceMethod yX2_layBelow, Cond.selects RX2 yX2_layBelow yX2_layBelow, Cond.code yX2_layBelow cX2_layBelow 4 none, Cond.methodLink RX2 57 yX2_rightBelow, Cond.instanceMethod yX2_rightBelow, Cond.selects RX2 yX2_rightBelow yX2_rightBelow, Cond.code yX2_rightBelow cX2_rightBelow 3 (some .int), Cond.methodLink RX4 87 yX2_renew, Cond.instanceMethod yX2_renew, Cond.selects RX2 yX2_renew yX2_renew, Cond.code yX2_renew cX2_renew 5 (some .int)]
def wsX4_heavy_r3 : List Cond := [Cond.methodLink RX2 61 yX2_putTogether, Cond.instanceMethod yX2_putTogether, Cond.selects RX2 yX2_putTogether yX2_putTogether, Cond.code yX2_putTogether cX2_putTogether 2 none, Cond.fieldLink RX2 12 "MajorityIndex$Tree" "joined" "LMajorityIndex$Votes;", Cond.fieldLink RX2 74 "MajorityIndex$Row" "cell" "[I", Cond.fieldLink RX2 85 "MajorityIndex$Tree" "slotsHere" "I", Cond.methodLink RX2 71 yX3_clear, Cond.instanceMethod yX3_clear, Cond.selects RX3 yX3_clear yX3_clear, Cond.initialized RX3, Cond.code yX3_clear cX3_clear 1 none, Cond.fieldLink RX3 18 "MajorityIndex$Votes" "size" "I", Cond.fieldLink RX3 22 "MajorityIndex$Votes" "lost" "I", Cond.fieldLink RX3 25 "MajorityIndex$Votes" "lessBy" "I", Cond.methodLink RX2 77 yX3_add, Cond.instanceMethod yX3_add, Cond.selects RX3 yX3_add yX3_add, Cond.code yX3_add cX3_add 4 none, Cond.fieldLink RX3 9 "MajorityIndex$Votes" "value" "[I", Cond.fieldLink RX3 15 "MajorityIndex$Votes" "number" "[I", Cond.methodLink RX2 81 yX2_joinNode, Cond.instanceMethod yX2_joinNode, Cond.selects RX2 yX2_joinNode yX2_joinNode]
def wsX4_heavy_r4 : List Cond := [Cond.code yX2_joinNode cX2_joinNode 5 none, Cond.fieldLink RX2 25 "MajorityIndex$Tree" "size" "[I", Cond.fieldLink RX2 34 "MajorityIndex$Tree" "value" "[I", Cond.fieldLink RX2 37 "MajorityIndex$Tree" "number" "[I", Cond.fieldLink RX2 91 "MajorityIndex$Votes" "lost" "I", Cond.fieldLink RX2 28 "MajorityIndex$Tree" "lossOf" "[I", Cond.methodLink RX2 88 yX3_cancel, Cond.instanceMethod yX3_cancel, Cond.selects RX3 yX3_cancel yX3_cancel, Cond.code yX3_cancel cX3_cancel 4 none, Cond.methodLink RX3 32 yX3_order, Cond.instanceMethod yX3_order, Cond.selects RX3 yX3_order yX3_order, Cond.code yX3_order cX3_order 3 none, Cond.methodLink RX3 35 yX3_isAhead, Cond.instanceMethod yX3_isAhead, Cond.selects RX3 yX3_isAhead yX3_isAhead, Cond.code yX3_isAhead cX3_isAhead 3 (some .boolean), Cond.methodLink RX3 39 yX3_exchange, Cond.instanceMethod yX3_exchange, Cond.selects RX3 yX3_exchange yX3_exchange, Cond.code yX3_exchange cX3_exchange 5 none, Cond.methodLink RX2 64 yX2_isJoined, Cond.instanceMethod yX2_isJoined]
def wsX4_heavy_r5 : List Cond := [Cond.selects RX2 yX2_isJoined yX2_isJoined, Cond.code yX2_isJoined cX2_isJoined 4 (some .boolean), Cond.fieldLink RX2 94 "MajorityIndex$Votes" "size" "I", Cond.fieldLink RX2 96 "MajorityIndex$Votes" "value" "[I", Cond.fieldLink RX2 97 "MajorityIndex$Votes" "number" "[I", Cond.methodLink RX2 68 yX2_keepJoined, Cond.instanceMethod yX2_keepJoined, Cond.selects RX2 yX2_keepJoined yX2_keepJoined, Cond.code yX2_keepJoined cX2_keepJoined 4 none, Cond.methodLink RX2 98 Lib.Math.min.name, Cond.static Lib.Math.min.name, Cond.initialized "java/lang/Math", Cond.code Lib.Math.min.name Lib.Math.min.code 2 (some .int), Cond.fieldLink RX2 31 "MajorityIndex$Tree" "lessBy" "[I", Cond.fieldLink RX2 104 "MajorityIndex$Votes" "lessBy" "I", Cond.methodLink RX4 192 yX4_gatherHeavy, Cond.instanceMethod yX4_gatherHeavy, Cond.selects RX4 yX4_gatherHeavy yX4_gatherHeavy, Cond.code yX4_gatherHeavy cX4_gatherHeavy 7 none, Cond.fieldLink RX4 136 "MajorityIndex$Votes" "number" "[I", Cond.fieldLink RX4 133 "MajorityIndex$Votes" "value" "[I", Cond.methodLink RX4 170 yX2_gather, Cond.instanceMethod yX2_gather, Cond.selects RX2 yX2_gather yX2_gather]
def wsX4_heavy_r6 : List Cond := [Cond.code yX2_gather cX2_gather 6 none, Cond.methodLink RX2 106 yX2_isPart, Cond.instanceMethod yX2_isPart, Cond.selects RX2 yX2_isPart yX2_isPart, Cond.code yX2_isPart cX2_isPart 4 (some .boolean), Cond.methodLink RX4 113 yX0_oftenIn, Cond.instanceMethod yX0_oftenIn, Cond.selects RX0 yX0_oftenIn yX0_oftenIn, Cond.code yX0_oftenIn cX0_oftenIn 6 (some .int), Cond.fieldLink RX0 9 "MajorityIndex$Row" "cell" "[I", Cond.methodLink RX4 262 yX3_keepHeavy, Cond.instanceMethod yX3_keepHeavy, Cond.selects RX3 yX3_keepHeavy yX3_keepHeavy, Cond.code yX3_keepHeavy cX3_keepHeavy 6 none, Cond.static yX4_isHeavy, Cond.code yX4_isHeavy cX4_isHeavy 4 (some .boolean)]
def wsX4_heavy : List Cond := .code yX4_heavy cX4_heavy 5 (some .int) :: ((wsX4_heavy_r1 ++ (wsX4_heavy_r2 ++ (wsX4_heavy_r3 ++ (wsX4_heavy_r4 ++ (wsX4_heavy_r5 ++ wsX4_heavy_r6))))) ++ wsX40 ++ wsX30 ++ wsX00 ++ wsX20)
def wsX4_failed_r1 : List Cond := [Cond.fieldLink RX4 12 "MajorityIndex" "row" "LMajorityIndex$Row;", Cond.fieldLink RX4 35 "MajorityIndex" "votes" "LMajorityIndex$Votes;", Cond.fieldLink RX4 174 "MajorityIndex$Votes" "size" "I", Cond.methodLink RX4 79 yX0_hasRange, Cond.instanceMethod yX0_hasRange, Cond.selects RX0 yX0_hasRange yX0_hasRange, Cond.initialized RX0, Cond.code yX0_hasRange cX0_hasRange 3 (some .boolean), Cond.fieldLink RX0 15 "MajorityIndex$Row" "length" "I", Cond.methodLink RX4 186 yX4_isShare, Cond.static yX4_isShare, Cond.initialized RX4, Cond.code yX4_isShare cX4_isShare 2 (some .boolean), Cond.methodLink RX4 189 yX4_isEnough, Cond.instanceMethod yX4_isEnough, Cond.selects RX4 yX4_isEnough yX4_isEnough, Cond.code yX4_isEnough cX4_isEnough 3 (some .boolean), Cond.fieldLink RX4 49 "MajorityIndex" "slotsNow" "I", Cond.methodLink RX4 71 yX4_laidTree, Cond.instanceMethod yX4_laidTree, Cond.selects RX4 yX4_laidTree yX4_laidTree, Cond.code yX4_laidTree cX4_laidTree 1 (some (.object "MajorityIndex$Tree")), Cond.fieldLink RX4 53 "MajorityIndex" "treeIsOld" "Z", Cond.fieldLink RX4 21 "MajorityIndex" "tree" "LMajorityIndex$Tree;"]
def wsX4_failed_r2 : List Cond := [Cond.fieldLink RX4 204 "MajorityIndex$Tree" "slotsHere" "I", Cond.fieldLink RX4 57 "MajorityIndex$Row" "length" "I", Cond.methodLink RX4 259 yX2_layRanges, Cond.instanceMethod yX2_layRanges, Cond.selects RX2 yX2_layRanges yX2_layRanges, Cond.initialized RX2, Cond.code yX2_layRanges cX2_layRanges 2 none, Cond.fieldLink RX2 40 "MajorityIndex$Tree" "row" "LMajorityIndex$Row;", Cond.fieldLink RX2 44 "MajorityIndex$Row" "length" "I", Cond.fieldLink RX2 50 "MajorityIndex$Tree" "nodes" "I", Cond.fieldLink RX2 18 "MajorityIndex$Tree" "from" "[I", Cond.fieldLink RX2 22 "MajorityIndex$Tree" "to" "[I", Cond.methodLink RX2 53 yX2_layBelow, Cond.instanceMethod yX2_layBelow, Cond.selects RX2 yX2_layBelow yX2_layBelow, Cond.code yX2_layBelow cX2_layBelow 4 none, Cond.methodLink RX2 57 yX2_rightBelow, Cond.instanceMethod yX2_rightBelow, Cond.selects RX2 yX2_rightBelow yX2_rightBelow, Cond.code yX2_rightBelow cX2_rightBelow 3 (some .int), Cond.methodLink RX4 87 yX2_renew, Cond.instanceMethod yX2_renew, Cond.selects RX2 yX2_renew yX2_renew, Cond.code yX2_renew cX2_renew 5 (some .int)]
def wsX4_failed_r3 : List Cond := [Cond.methodLink RX2 61 yX2_putTogether, Cond.instanceMethod yX2_putTogether, Cond.selects RX2 yX2_putTogether yX2_putTogether, Cond.code yX2_putTogether cX2_putTogether 2 none, Cond.fieldLink RX2 12 "MajorityIndex$Tree" "joined" "LMajorityIndex$Votes;", Cond.fieldLink RX2 74 "MajorityIndex$Row" "cell" "[I", Cond.fieldLink RX2 85 "MajorityIndex$Tree" "slotsHere" "I", Cond.methodLink RX2 71 yX3_clear, Cond.instanceMethod yX3_clear, Cond.selects RX3 yX3_clear yX3_clear, Cond.initialized RX3, Cond.code yX3_clear cX3_clear 1 none, Cond.fieldLink RX3 18 "MajorityIndex$Votes" "size" "I", Cond.fieldLink RX3 22 "MajorityIndex$Votes" "lost" "I", Cond.fieldLink RX3 25 "MajorityIndex$Votes" "lessBy" "I", Cond.methodLink RX2 77 yX3_add, Cond.instanceMethod yX3_add, Cond.selects RX3 yX3_add yX3_add, Cond.code yX3_add cX3_add 4 none, Cond.fieldLink RX3 9 "MajorityIndex$Votes" "value" "[I", Cond.fieldLink RX3 15 "MajorityIndex$Votes" "number" "[I", Cond.methodLink RX2 81 yX2_joinNode, Cond.instanceMethod yX2_joinNode, Cond.selects RX2 yX2_joinNode yX2_joinNode]
def wsX4_failed_r4 : List Cond := [Cond.code yX2_joinNode cX2_joinNode 5 none, Cond.fieldLink RX2 25 "MajorityIndex$Tree" "size" "[I", Cond.fieldLink RX2 34 "MajorityIndex$Tree" "value" "[I", Cond.fieldLink RX2 37 "MajorityIndex$Tree" "number" "[I", Cond.fieldLink RX2 91 "MajorityIndex$Votes" "lost" "I", Cond.fieldLink RX2 28 "MajorityIndex$Tree" "lossOf" "[I", Cond.methodLink RX2 88 yX3_cancel, Cond.instanceMethod yX3_cancel, Cond.selects RX3 yX3_cancel yX3_cancel, Cond.code yX3_cancel cX3_cancel 4 none, Cond.methodLink RX3 32 yX3_order, Cond.instanceMethod yX3_order, Cond.selects RX3 yX3_order yX3_order, Cond.code yX3_order cX3_order 3 none, Cond.methodLink RX3 35 yX3_isAhead, Cond.instanceMethod yX3_isAhead, Cond.selects RX3 yX3_isAhead yX3_isAhead, Cond.code yX3_isAhead cX3_isAhead 3 (some .boolean), Cond.methodLink RX3 39 yX3_exchange, Cond.instanceMethod yX3_exchange, Cond.selects RX3 yX3_exchange yX3_exchange, Cond.code yX3_exchange cX3_exchange 5 none, Cond.methodLink RX2 64 yX2_isJoined, Cond.instanceMethod yX2_isJoined]
def wsX4_failed_r5 : List Cond := [Cond.selects RX2 yX2_isJoined yX2_isJoined, Cond.code yX2_isJoined cX2_isJoined 4 (some .boolean), Cond.fieldLink RX2 94 "MajorityIndex$Votes" "size" "I", Cond.fieldLink RX2 96 "MajorityIndex$Votes" "value" "[I", Cond.fieldLink RX2 97 "MajorityIndex$Votes" "number" "[I", Cond.methodLink RX2 68 yX2_keepJoined, Cond.instanceMethod yX2_keepJoined, Cond.selects RX2 yX2_keepJoined yX2_keepJoined, Cond.code yX2_keepJoined cX2_keepJoined 4 none, Cond.methodLink RX2 98 Lib.Math.min.name, Cond.static Lib.Math.min.name, Cond.initialized "java/lang/Math", Cond.code Lib.Math.min.name Lib.Math.min.code 2 (some .int), Cond.fieldLink RX2 31 "MajorityIndex$Tree" "lessBy" "[I", Cond.fieldLink RX2 104 "MajorityIndex$Votes" "lessBy" "I", Cond.methodLink RX4 170 yX2_gather, Cond.instanceMethod yX2_gather, Cond.selects RX2 yX2_gather yX2_gather, Cond.code yX2_gather cX2_gather 6 none, Cond.methodLink RX2 106 yX2_isPart, Cond.instanceMethod yX2_isPart, Cond.selects RX2 yX2_isPart yX2_isPart, Cond.code yX2_isPart cX2_isPart 4 (some .boolean), Cond.methodLink RX4 192 yX4_gatherHeavy]
def wsX4_failed_r6 : List Cond := [Cond.instanceMethod yX4_gatherHeavy, Cond.selects RX4 yX4_gatherHeavy yX4_gatherHeavy, Cond.code yX4_gatherHeavy cX4_gatherHeavy 7 none, Cond.fieldLink RX4 136 "MajorityIndex$Votes" "number" "[I", Cond.fieldLink RX4 133 "MajorityIndex$Votes" "value" "[I", Cond.methodLink RX4 113 yX0_oftenIn, Cond.instanceMethod yX0_oftenIn, Cond.selects RX0 yX0_oftenIn yX0_oftenIn, Cond.code yX0_oftenIn cX0_oftenIn 6 (some .int), Cond.fieldLink RX0 9 "MajorityIndex$Row" "cell" "[I", Cond.methodLink RX4 262 yX3_keepHeavy, Cond.instanceMethod yX3_keepHeavy, Cond.selects RX3 yX3_keepHeavy yX3_keepHeavy, Cond.code yX3_keepHeavy cX3_keepHeavy 6 none, Cond.static yX4_isHeavy, Cond.code yX4_isHeavy cX4_isHeavy 4 (some .boolean)]
def wsX4_failed : List Cond := .code yX4_failed cX4_failed 7 (some .int) :: ((wsX4_failed_r1 ++ (wsX4_failed_r2 ++ (wsX4_failed_r3 ++ (wsX4_failed_r4 ++ (wsX4_failed_r5 ++ wsX4_failed_r6))))) ++ wsX40 ++ wsX30 ++ wsX00 ++ wsX20)
def wsX4_least_r1 : List Cond := [Cond.fieldLink RX4 12 "MajorityIndex" "row" "LMajorityIndex$Row;", Cond.fieldLink RX4 49 "MajorityIndex" "slotsNow" "I", Cond.fieldLink RX4 204 "MajorityIndex$Tree" "slotsHere" "I", Cond.methodLink RX4 79 yX0_hasRange, Cond.instanceMethod yX0_hasRange, Cond.selects RX0 yX0_hasRange yX0_hasRange, Cond.initialized RX0, Cond.code yX0_hasRange cX0_hasRange 3 (some .boolean), Cond.fieldLink RX0 15 "MajorityIndex$Row" "length" "I", Cond.methodLink RX4 186 yX4_isShare, Cond.static yX4_isShare, Cond.initialized RX4, Cond.code yX4_isShare cX4_isShare 2 (some .boolean), Cond.methodLink RX4 196 yX4_heavyValues, Cond.instanceMethod yX4_heavyValues, Cond.selects RX4 yX4_heavyValues yX4_heavyValues, Cond.code yX4_heavyValues cX4_heavyValues 8 (some .int), Cond.fieldLink RX4 110 "MajorityIndex$Row" "cell" "[I", Cond.methodLink RX4 113 yX0_oftenIn, Cond.instanceMethod yX0_oftenIn, Cond.selects RX0 yX0_oftenIn yX0_oftenIn, Cond.code yX0_oftenIn cX0_oftenIn 6 (some .int), Cond.fieldLink RX0 9 "MajorityIndex$Row" "cell" "[I", Cond.methodLink RX4 273 yX4_isHeavy]
def wsX4_least_r2 : List Cond := [Cond.static yX4_isHeavy, Cond.code yX4_isHeavy cX4_isHeavy 4 (some .boolean), Cond.methodLink RX4 71 yX4_laidTree, Cond.instanceMethod yX4_laidTree, Cond.selects RX4 yX4_laidTree yX4_laidTree, Cond.code yX4_laidTree cX4_laidTree 1 (some (.object "MajorityIndex$Tree")), Cond.fieldLink RX4 53 "MajorityIndex" "treeIsOld" "Z", Cond.fieldLink RX4 21 "MajorityIndex" "tree" "LMajorityIndex$Tree;", Cond.fieldLink RX4 57 "MajorityIndex$Row" "length" "I", Cond.methodLink RX4 259 yX2_layRanges, Cond.instanceMethod yX2_layRanges, Cond.selects RX2 yX2_layRanges yX2_layRanges, Cond.initialized RX2, Cond.code yX2_layRanges cX2_layRanges 2 none, Cond.fieldLink RX2 40 "MajorityIndex$Tree" "row" "LMajorityIndex$Row;", Cond.fieldLink RX2 44 "MajorityIndex$Row" "length" "I", Cond.fieldLink RX2 50 "MajorityIndex$Tree" "nodes" "I", Cond.fieldLink RX2 18 "MajorityIndex$Tree" "from" "[I", Cond.fieldLink RX2 22 "MajorityIndex$Tree" "to" "[I", Cond.methodLink RX2 53 yX2_layBelow, Cond.instanceMethod yX2_layBelow, Cond.selects RX2 yX2_layBelow yX2_layBelow, Cond.code yX2_layBelow cX2_layBelow 4 none, Cond.methodLink RX2 57 yX2_rightBelow]
def wsX4_least_r3 : List Cond := [Cond.instanceMethod yX2_rightBelow, Cond.selects RX2 yX2_rightBelow yX2_rightBelow, Cond.code yX2_rightBelow cX2_rightBelow 3 (some .int), Cond.methodLink RX4 87 yX2_renew, Cond.instanceMethod yX2_renew, Cond.selects RX2 yX2_renew yX2_renew, Cond.code yX2_renew cX2_renew 5 (some .int), Cond.methodLink RX2 61 yX2_putTogether, Cond.instanceMethod yX2_putTogether, Cond.selects RX2 yX2_putTogether yX2_putTogether, Cond.code yX2_putTogether cX2_putTogether 2 none, Cond.fieldLink RX2 12 "MajorityIndex$Tree" "joined" "LMajorityIndex$Votes;", Cond.fieldLink RX2 74 "MajorityIndex$Row" "cell" "[I", Cond.fieldLink RX2 85 "MajorityIndex$Tree" "slotsHere" "I", Cond.methodLink RX2 71 yX3_clear, Cond.instanceMethod yX3_clear, Cond.selects RX3 yX3_clear yX3_clear, Cond.initialized RX3, Cond.code yX3_clear cX3_clear 1 none, Cond.fieldLink RX3 18 "MajorityIndex$Votes" "size" "I", Cond.fieldLink RX3 22 "MajorityIndex$Votes" "lost" "I", Cond.fieldLink RX3 25 "MajorityIndex$Votes" "lessBy" "I", Cond.methodLink RX2 77 yX3_add, Cond.instanceMethod yX3_add]
def wsX4_least_r4 : List Cond := [Cond.selects RX3 yX3_add yX3_add, Cond.code yX3_add cX3_add 4 none, Cond.fieldLink RX3 9 "MajorityIndex$Votes" "value" "[I", Cond.fieldLink RX3 15 "MajorityIndex$Votes" "number" "[I", Cond.methodLink RX2 81 yX2_joinNode, Cond.instanceMethod yX2_joinNode, Cond.selects RX2 yX2_joinNode yX2_joinNode, Cond.code yX2_joinNode cX2_joinNode 5 none, Cond.fieldLink RX2 25 "MajorityIndex$Tree" "size" "[I", Cond.fieldLink RX2 34 "MajorityIndex$Tree" "value" "[I", Cond.fieldLink RX2 37 "MajorityIndex$Tree" "number" "[I", Cond.fieldLink RX2 91 "MajorityIndex$Votes" "lost" "I", Cond.fieldLink RX2 28 "MajorityIndex$Tree" "lossOf" "[I", Cond.methodLink RX2 88 yX3_cancel, Cond.instanceMethod yX3_cancel, Cond.selects RX3 yX3_cancel yX3_cancel, Cond.code yX3_cancel cX3_cancel 4 none, Cond.methodLink RX3 32 yX3_order, Cond.instanceMethod yX3_order, Cond.selects RX3 yX3_order yX3_order, Cond.code yX3_order cX3_order 3 none, Cond.methodLink RX3 35 yX3_isAhead, Cond.instanceMethod yX3_isAhead, Cond.selects RX3 yX3_isAhead yX3_isAhead]
def wsX4_least_r5 : List Cond := [Cond.code yX3_isAhead cX3_isAhead 3 (some .boolean), Cond.methodLink RX3 39 yX3_exchange, Cond.instanceMethod yX3_exchange, Cond.selects RX3 yX3_exchange yX3_exchange, Cond.code yX3_exchange cX3_exchange 5 none, Cond.methodLink RX2 64 yX2_isJoined, Cond.instanceMethod yX2_isJoined, Cond.selects RX2 yX2_isJoined yX2_isJoined, Cond.code yX2_isJoined cX2_isJoined 4 (some .boolean), Cond.fieldLink RX2 94 "MajorityIndex$Votes" "size" "I", Cond.fieldLink RX2 96 "MajorityIndex$Votes" "value" "[I", Cond.fieldLink RX2 97 "MajorityIndex$Votes" "number" "[I", Cond.methodLink RX2 68 yX2_keepJoined, Cond.instanceMethod yX2_keepJoined, Cond.selects RX2 yX2_keepJoined yX2_keepJoined, Cond.code yX2_keepJoined cX2_keepJoined 4 none, Cond.methodLink RX2 98 Lib.Math.min.name, Cond.static Lib.Math.min.name, Cond.initialized "java/lang/Math", Cond.code Lib.Math.min.name Lib.Math.min.code 2 (some .int), Cond.fieldLink RX2 31 "MajorityIndex$Tree" "lessBy" "[I", Cond.fieldLink RX2 104 "MajorityIndex$Votes" "lessBy" "I", Cond.methodLink RX4 200 yX4_heavyVotesBy, Cond.instanceMethod yX4_heavyVotesBy]
def wsX4_least_r6 : List Cond := [Cond.selects RX4 yX4_heavyVotesBy yX4_heavyVotesBy, Cond.code yX4_heavyVotesBy cX4_heavyVotesBy 9 (some .int), Cond.fieldLink RX4 35 "MajorityIndex" "votes" "LMajorityIndex$Votes;", Cond.fieldLink RX4 174 "MajorityIndex$Votes" "size" "I", Cond.fieldLink RX4 133 "MajorityIndex$Votes" "value" "[I", Cond.methodLink RX4 170 yX2_gather, Cond.instanceMethod yX2_gather, Cond.selects RX2 yX2_gather yX2_gather, Cond.code yX2_gather cX2_gather 6 none, Cond.methodLink RX2 106 yX2_isPart, Cond.instanceMethod yX2_isPart, Cond.selects RX2 yX2_isPart yX2_isPart, Cond.code yX2_isPart cX2_isPart 4 (some .boolean)]
def wsX4_least : List Cond := .code yX4_least cX4_least 9 (some .int) :: ((wsX4_least_r1 ++ (wsX4_least_r2 ++ (wsX4_least_r3 ++ (wsX4_least_r4 ++ (wsX4_least_r5 ++ wsX4_least_r6))))) ++ wsX40 ++ wsX20 ++ wsX00 ++ wsX30)
def wsX4_majority : List Cond := .code yX4_majority cX4_majority 3 (some .int) :: ([.fieldLink RX4 12 "MajorityIndex" "row" "LMajorityIndex$Row;", .constant RX4 102 (-40000), .methodLink RX4 79 yX0_hasRange, .instanceMethod yX0_hasRange, .selects RX0 yX0_hasRange yX0_hasRange, .initialized RX0, .code yX0_hasRange cX0_hasRange 3 (some .boolean), .fieldLink RX0 15 "MajorityIndex$Row" "length" "I", .methodLink RX4 207 yX0_leader, .instanceMethod yX0_leader, .selects RX0 yX0_leader yX0_leader, .code yX0_leader cX0_leader 6 (some .int), .constant RX0 23 (-40000), .fieldLink RX0 9 "MajorityIndex$Row" "cell" "[I", .methodLink RX0 24 yX0_oftenIn, .instanceMethod yX0_oftenIn, .selects RX0 yX0_oftenIn yX0_oftenIn, .code yX0_oftenIn cX0_oftenIn 6 (some .int), .static yX4_isHeavy, .initialized RX4, .code yX4_isHeavy cX4_isHeavy 4 (some .boolean)] ++ wsX40 ++ wsX00)
def wsX4_margin : List Cond := .code yX4_margin cX4_margin 4 (some .int) :: ([.fieldLink RX4 12 "MajorityIndex" "row" "LMajorityIndex$Row;", .constant RX4 102 (-40000), .methodLink RX4 68 yX4_isValue, .static yX4_isValue, .initialized RX4, .code yX4_isValue cX4_isValue 1 (some .boolean), .methodLink RX4 79 yX0_hasRange, .instanceMethod yX0_hasRange, .selects RX0 yX0_hasRange yX0_hasRange, .initialized RX0, .code yX0_hasRange cX0_hasRange 3 (some .boolean), .fieldLink RX0 15 "MajorityIndex$Row" "length" "I", .methodLink RX4 113 yX0_oftenIn, .instanceMethod yX0_oftenIn, .selects RX0 yX0_oftenIn yX0_oftenIn, .code yX0_oftenIn cX0_oftenIn 6 (some .int), .fieldLink RX0 9 "MajorityIndex$Row" "cell" "[I"] ++ wsX40 ++ wsX00)
def wsX4_refusalOfBoth : List Cond := .code yX4_refusalOfBoth cX4_refusalOfBoth 7 (some .int) :: ([.fieldLink RX4 12 "MajorityIndex" "row" "LMajorityIndex$Row;", .methodLink RX4 79 yX0_hasRange, .instanceMethod yX0_hasRange, .selects RX0 yX0_hasRange yX0_hasRange, .initialized RX0, .code yX0_hasRange cX0_hasRange 3 (some .boolean), .fieldLink RX0 15 "MajorityIndex$Row" "length" "I", .methodLink RX4 186 yX4_isShare, .static yX4_isShare, .initialized RX4, .code yX4_isShare cX4_isShare 2 (some .boolean), .methodLink RX4 189 yX4_isEnough, .instanceMethod yX4_isEnough, .selects RX4 yX4_isEnough yX4_isEnough, .code yX4_isEnough cX4_isEnough 3 (some .boolean), .fieldLink RX4 49 "MajorityIndex" "slotsNow" "I"] ++ wsX40 ++ wsX00)
def wsX4_both_r1 : List Cond := [Cond.fieldLink RX4 35 "MajorityIndex" "votes" "LMajorityIndex$Votes;", Cond.fieldLink RX4 174 "MajorityIndex$Votes" "size" "I", Cond.methodLink RX4 210 yX4_refusalOfBoth, Cond.instanceMethod yX4_refusalOfBoth, Cond.selects RX4 yX4_refusalOfBoth yX4_refusalOfBoth, Cond.initialized RX4, Cond.code yX4_refusalOfBoth cX4_refusalOfBoth 7 (some .int), Cond.fieldLink RX4 12 "MajorityIndex" "row" "LMajorityIndex$Row;", Cond.methodLink RX4 79 yX0_hasRange, Cond.instanceMethod yX0_hasRange, Cond.selects RX0 yX0_hasRange yX0_hasRange, Cond.initialized RX0, Cond.code yX0_hasRange cX0_hasRange 3 (some .boolean), Cond.fieldLink RX0 15 "MajorityIndex$Row" "length" "I", Cond.methodLink RX4 186 yX4_isShare, Cond.static yX4_isShare, Cond.code yX4_isShare cX4_isShare 2 (some .boolean), Cond.methodLink RX4 189 yX4_isEnough, Cond.instanceMethod yX4_isEnough, Cond.selects RX4 yX4_isEnough yX4_isEnough, Cond.code yX4_isEnough cX4_isEnough 3 (some .boolean), Cond.fieldLink RX4 49 "MajorityIndex" "slotsNow" "I", Cond.methodLink RX4 71 yX4_laidTree, Cond.instanceMethod yX4_laidTree]
def wsX4_both_r2 : List Cond := [Cond.selects RX4 yX4_laidTree yX4_laidTree, Cond.code yX4_laidTree cX4_laidTree 1 (some (.object "MajorityIndex$Tree")), Cond.fieldLink RX4 53 "MajorityIndex" "treeIsOld" "Z", Cond.fieldLink RX4 21 "MajorityIndex" "tree" "LMajorityIndex$Tree;", Cond.fieldLink RX4 204 "MajorityIndex$Tree" "slotsHere" "I", Cond.fieldLink RX4 57 "MajorityIndex$Row" "length" "I", Cond.methodLink RX4 259 yX2_layRanges, Cond.instanceMethod yX2_layRanges, Cond.selects RX2 yX2_layRanges yX2_layRanges, Cond.initialized RX2, Cond.code yX2_layRanges cX2_layRanges 2 none, Cond.fieldLink RX2 40 "MajorityIndex$Tree" "row" "LMajorityIndex$Row;", Cond.fieldLink RX2 44 "MajorityIndex$Row" "length" "I", Cond.fieldLink RX2 50 "MajorityIndex$Tree" "nodes" "I", Cond.fieldLink RX2 18 "MajorityIndex$Tree" "from" "[I", Cond.fieldLink RX2 22 "MajorityIndex$Tree" "to" "[I", Cond.methodLink RX2 53 yX2_layBelow, Cond.instanceMethod yX2_layBelow, Cond.selects RX2 yX2_layBelow yX2_layBelow, Cond.code yX2_layBelow cX2_layBelow 4 none, Cond.methodLink RX2 57 yX2_rightBelow, Cond.instanceMethod yX2_rightBelow, Cond.selects RX2 yX2_rightBelow yX2_rightBelow, Cond.code yX2_rightBelow cX2_rightBelow 3 (some .int)]
def wsX4_both_r3 : List Cond := [Cond.methodLink RX4 87 yX2_renew, Cond.instanceMethod yX2_renew, Cond.selects RX2 yX2_renew yX2_renew, Cond.code yX2_renew cX2_renew 5 (some .int), Cond.methodLink RX2 61 yX2_putTogether, Cond.instanceMethod yX2_putTogether, Cond.selects RX2 yX2_putTogether yX2_putTogether, Cond.code yX2_putTogether cX2_putTogether 2 none, Cond.fieldLink RX2 12 "MajorityIndex$Tree" "joined" "LMajorityIndex$Votes;", Cond.fieldLink RX2 74 "MajorityIndex$Row" "cell" "[I", Cond.fieldLink RX2 85 "MajorityIndex$Tree" "slotsHere" "I", Cond.methodLink RX2 71 yX3_clear, Cond.instanceMethod yX3_clear, Cond.selects RX3 yX3_clear yX3_clear, Cond.initialized RX3, Cond.code yX3_clear cX3_clear 1 none, Cond.fieldLink RX3 18 "MajorityIndex$Votes" "size" "I", Cond.fieldLink RX3 22 "MajorityIndex$Votes" "lost" "I", Cond.fieldLink RX3 25 "MajorityIndex$Votes" "lessBy" "I", Cond.methodLink RX2 77 yX3_add, Cond.instanceMethod yX3_add, Cond.selects RX3 yX3_add yX3_add, Cond.code yX3_add cX3_add 4 none, Cond.fieldLink RX3 9 "MajorityIndex$Votes" "value" "[I"]
def wsX4_both_r4 : List Cond := [Cond.fieldLink RX3 15 "MajorityIndex$Votes" "number" "[I", Cond.methodLink RX2 81 yX2_joinNode, Cond.instanceMethod yX2_joinNode, Cond.selects RX2 yX2_joinNode yX2_joinNode, Cond.code yX2_joinNode cX2_joinNode 5 none, Cond.fieldLink RX2 25 "MajorityIndex$Tree" "size" "[I", Cond.fieldLink RX2 34 "MajorityIndex$Tree" "value" "[I", Cond.fieldLink RX2 37 "MajorityIndex$Tree" "number" "[I", Cond.fieldLink RX2 91 "MajorityIndex$Votes" "lost" "I", Cond.fieldLink RX2 28 "MajorityIndex$Tree" "lossOf" "[I", Cond.methodLink RX2 88 yX3_cancel, Cond.instanceMethod yX3_cancel, Cond.selects RX3 yX3_cancel yX3_cancel, Cond.code yX3_cancel cX3_cancel 4 none, Cond.methodLink RX3 32 yX3_order, Cond.instanceMethod yX3_order, Cond.selects RX3 yX3_order yX3_order, Cond.code yX3_order cX3_order 3 none, Cond.methodLink RX3 35 yX3_isAhead, Cond.instanceMethod yX3_isAhead, Cond.selects RX3 yX3_isAhead yX3_isAhead, Cond.code yX3_isAhead cX3_isAhead 3 (some .boolean), Cond.methodLink RX3 39 yX3_exchange, Cond.instanceMethod yX3_exchange]
def wsX4_both_r5 : List Cond := [Cond.selects RX3 yX3_exchange yX3_exchange, Cond.code yX3_exchange cX3_exchange 5 none, Cond.methodLink RX2 64 yX2_isJoined, Cond.instanceMethod yX2_isJoined, Cond.selects RX2 yX2_isJoined yX2_isJoined, Cond.code yX2_isJoined cX2_isJoined 4 (some .boolean), Cond.fieldLink RX2 94 "MajorityIndex$Votes" "size" "I", Cond.fieldLink RX2 96 "MajorityIndex$Votes" "value" "[I", Cond.fieldLink RX2 97 "MajorityIndex$Votes" "number" "[I", Cond.methodLink RX2 68 yX2_keepJoined, Cond.instanceMethod yX2_keepJoined, Cond.selects RX2 yX2_keepJoined yX2_keepJoined, Cond.code yX2_keepJoined cX2_keepJoined 4 none, Cond.methodLink RX2 98 Lib.Math.min.name, Cond.static Lib.Math.min.name, Cond.initialized "java/lang/Math", Cond.code Lib.Math.min.name Lib.Math.min.code 2 (some .int), Cond.fieldLink RX2 31 "MajorityIndex$Tree" "lessBy" "[I", Cond.fieldLink RX2 104 "MajorityIndex$Votes" "lessBy" "I", Cond.methodLink RX4 214 yX4_gatherHeavyOfBoth, Cond.instanceMethod yX4_gatherHeavyOfBoth, Cond.selects RX4 yX4_gatherHeavyOfBoth yX4_gatherHeavyOfBoth, Cond.code yX4_gatherHeavyOfBoth cX4_gatherHeavyOfBoth 10 none, Cond.methodLink RX4 91 Lib.Math.min.name]
def wsX4_both_r6 : List Cond := [Cond.fieldLink RX4 39 "MajorityIndex" "otherVotes" "LMajorityIndex$Votes;", Cond.methodLink RX4 96 Lib.Math.max.name, Cond.static Lib.Math.max.name, Cond.code Lib.Math.max.name Lib.Math.max.code 2 (some .int), Cond.fieldLink RX4 133 "MajorityIndex$Votes" "value" "[I", Cond.fieldLink RX4 136 "MajorityIndex$Votes" "number" "[I", Cond.methodLink RX4 170 yX2_gather, Cond.instanceMethod yX2_gather, Cond.selects RX2 yX2_gather yX2_gather, Cond.code yX2_gather cX2_gather 6 none, Cond.methodLink RX2 106 yX2_isPart, Cond.instanceMethod yX2_isPart, Cond.selects RX2 yX2_isPart yX2_isPart, Cond.code yX2_isPart cX2_isPart 4 (some .boolean), Cond.methodLink RX4 266 yX3_join, Cond.instanceMethod yX3_join, Cond.selects RX3 yX3_join yX3_join, Cond.code yX3_join cX3_join 3 none, Cond.methodLink RX3 28 yX3_add, Cond.methodLink RX4 270 yX3_cancel, Cond.methodLink RX4 113 yX0_oftenIn, Cond.instanceMethod yX0_oftenIn, Cond.selects RX0 yX0_oftenIn yX0_oftenIn, Cond.code yX0_oftenIn cX0_oftenIn 6 (some .int)]
def wsX4_both_r7 : List Cond := [Cond.fieldLink RX0 9 "MajorityIndex$Row" "cell" "[I", Cond.methodLink RX4 262 yX3_keepHeavy, Cond.instanceMethod yX3_keepHeavy, Cond.selects RX3 yX3_keepHeavy yX3_keepHeavy, Cond.code yX3_keepHeavy cX3_keepHeavy 6 none, Cond.static yX4_isHeavy, Cond.code yX4_isHeavy cX4_isHeavy 4 (some .boolean)]
def wsX4_both : List Cond := .code yX4_both cX4_both 8 (some .int) :: ((wsX4_both_r1 ++ (wsX4_both_r2 ++ (wsX4_both_r3 ++ (wsX4_both_r4 ++ (wsX4_both_r5 ++ (wsX4_both_r6 ++ wsX4_both_r7)))))) ++ wsX40 ++ wsX30 ++ wsX00 ++ wsX20)
def wsX4_bothAt_r1 : List Cond := [Cond.constant RX4 102 (-40000), Cond.fieldLink RX4 35 "MajorityIndex" "votes" "LMajorityIndex$Votes;", Cond.fieldLink RX4 174 "MajorityIndex$Votes" "size" "I", Cond.fieldLink RX4 133 "MajorityIndex$Votes" "value" "[I", Cond.methodLink RX4 210 yX4_refusalOfBoth, Cond.instanceMethod yX4_refusalOfBoth, Cond.selects RX4 yX4_refusalOfBoth yX4_refusalOfBoth, Cond.initialized RX4, Cond.code yX4_refusalOfBoth cX4_refusalOfBoth 7 (some .int), Cond.fieldLink RX4 12 "MajorityIndex" "row" "LMajorityIndex$Row;", Cond.methodLink RX4 79 yX0_hasRange, Cond.instanceMethod yX0_hasRange, Cond.selects RX0 yX0_hasRange yX0_hasRange, Cond.initialized RX0, Cond.code yX0_hasRange cX0_hasRange 3 (some .boolean), Cond.fieldLink RX0 15 "MajorityIndex$Row" "length" "I", Cond.methodLink RX4 186 yX4_isShare, Cond.static yX4_isShare, Cond.code yX4_isShare cX4_isShare 2 (some .boolean), Cond.methodLink RX4 189 yX4_isEnough, Cond.instanceMethod yX4_isEnough, Cond.selects RX4 yX4_isEnough yX4_isEnough, Cond.code yX4_isEnough cX4_isEnough 3 (some .boolean), Cond.fieldLink RX4 49 "MajorityIndex" "slotsNow" "I"]
def wsX4_bothAt_r2 : List Cond := [Cond.methodLink RX4 71 yX4_laidTree, Cond.instanceMethod yX4_laidTree, Cond.selects RX4 yX4_laidTree yX4_laidTree, Cond.code yX4_laidTree cX4_laidTree 1 (some (.object "MajorityIndex$Tree")), Cond.fieldLink RX4 53 "MajorityIndex" "treeIsOld" "Z", Cond.fieldLink RX4 21 "MajorityIndex" "tree" "LMajorityIndex$Tree;", Cond.fieldLink RX4 204 "MajorityIndex$Tree" "slotsHere" "I", Cond.fieldLink RX4 57 "MajorityIndex$Row" "length" "I", Cond.methodLink RX4 259 yX2_layRanges, Cond.instanceMethod yX2_layRanges, Cond.selects RX2 yX2_layRanges yX2_layRanges, Cond.initialized RX2, Cond.code yX2_layRanges cX2_layRanges 2 none, Cond.fieldLink RX2 40 "MajorityIndex$Tree" "row" "LMajorityIndex$Row;", Cond.fieldLink RX2 44 "MajorityIndex$Row" "length" "I", Cond.fieldLink RX2 50 "MajorityIndex$Tree" "nodes" "I", Cond.fieldLink RX2 18 "MajorityIndex$Tree" "from" "[I", Cond.fieldLink RX2 22 "MajorityIndex$Tree" "to" "[I", Cond.methodLink RX2 53 yX2_layBelow, Cond.instanceMethod yX2_layBelow, Cond.selects RX2 yX2_layBelow yX2_layBelow, Cond.code yX2_layBelow cX2_layBelow 4 none, Cond.methodLink RX2 57 yX2_rightBelow, Cond.instanceMethod yX2_rightBelow]
def wsX4_bothAt_r3 : List Cond := [Cond.selects RX2 yX2_rightBelow yX2_rightBelow, Cond.code yX2_rightBelow cX2_rightBelow 3 (some .int), Cond.methodLink RX4 87 yX2_renew, Cond.instanceMethod yX2_renew, Cond.selects RX2 yX2_renew yX2_renew, Cond.code yX2_renew cX2_renew 5 (some .int), Cond.methodLink RX2 61 yX2_putTogether, Cond.instanceMethod yX2_putTogether, Cond.selects RX2 yX2_putTogether yX2_putTogether, Cond.code yX2_putTogether cX2_putTogether 2 none, Cond.fieldLink RX2 12 "MajorityIndex$Tree" "joined" "LMajorityIndex$Votes;", Cond.fieldLink RX2 74 "MajorityIndex$Row" "cell" "[I", Cond.fieldLink RX2 85 "MajorityIndex$Tree" "slotsHere" "I", Cond.methodLink RX2 71 yX3_clear, Cond.instanceMethod yX3_clear, Cond.selects RX3 yX3_clear yX3_clear, Cond.initialized RX3, Cond.code yX3_clear cX3_clear 1 none, Cond.fieldLink RX3 18 "MajorityIndex$Votes" "size" "I", Cond.fieldLink RX3 22 "MajorityIndex$Votes" "lost" "I", Cond.fieldLink RX3 25 "MajorityIndex$Votes" "lessBy" "I", Cond.methodLink RX2 77 yX3_add, Cond.instanceMethod yX3_add, Cond.selects RX3 yX3_add yX3_add]
def wsX4_bothAt_r4 : List Cond := [Cond.code yX3_add cX3_add 4 none, Cond.fieldLink RX3 9 "MajorityIndex$Votes" "value" "[I", Cond.fieldLink RX3 15 "MajorityIndex$Votes" "number" "[I", Cond.methodLink RX2 81 yX2_joinNode, Cond.instanceMethod yX2_joinNode, Cond.selects RX2 yX2_joinNode yX2_joinNode, Cond.code yX2_joinNode cX2_joinNode 5 none, Cond.fieldLink RX2 25 "MajorityIndex$Tree" "size" "[I", Cond.fieldLink RX2 34 "MajorityIndex$Tree" "value" "[I", Cond.fieldLink RX2 37 "MajorityIndex$Tree" "number" "[I", Cond.fieldLink RX2 91 "MajorityIndex$Votes" "lost" "I", Cond.fieldLink RX2 28 "MajorityIndex$Tree" "lossOf" "[I", Cond.methodLink RX2 88 yX3_cancel, Cond.instanceMethod yX3_cancel, Cond.selects RX3 yX3_cancel yX3_cancel, Cond.code yX3_cancel cX3_cancel 4 none, Cond.methodLink RX3 32 yX3_order, Cond.instanceMethod yX3_order, Cond.selects RX3 yX3_order yX3_order, Cond.code yX3_order cX3_order 3 none, Cond.methodLink RX3 35 yX3_isAhead, Cond.instanceMethod yX3_isAhead, Cond.selects RX3 yX3_isAhead yX3_isAhead, Cond.code yX3_isAhead cX3_isAhead 3 (some .boolean)]
def wsX4_bothAt_r5 : List Cond := [Cond.methodLink RX3 39 yX3_exchange, Cond.instanceMethod yX3_exchange, Cond.selects RX3 yX3_exchange yX3_exchange, Cond.code yX3_exchange cX3_exchange 5 none, Cond.methodLink RX2 64 yX2_isJoined, Cond.instanceMethod yX2_isJoined, Cond.selects RX2 yX2_isJoined yX2_isJoined, Cond.code yX2_isJoined cX2_isJoined 4 (some .boolean), Cond.fieldLink RX2 94 "MajorityIndex$Votes" "size" "I", Cond.fieldLink RX2 96 "MajorityIndex$Votes" "value" "[I", Cond.fieldLink RX2 97 "MajorityIndex$Votes" "number" "[I", Cond.methodLink RX2 68 yX2_keepJoined, Cond.instanceMethod yX2_keepJoined, Cond.selects RX2 yX2_keepJoined yX2_keepJoined, Cond.code yX2_keepJoined cX2_keepJoined 4 none, Cond.methodLink RX2 98 Lib.Math.min.name, Cond.static Lib.Math.min.name, Cond.initialized "java/lang/Math", Cond.code Lib.Math.min.name Lib.Math.min.code 2 (some .int), Cond.fieldLink RX2 31 "MajorityIndex$Tree" "lessBy" "[I", Cond.fieldLink RX2 104 "MajorityIndex$Votes" "lessBy" "I", Cond.methodLink RX4 214 yX4_gatherHeavyOfBoth, Cond.instanceMethod yX4_gatherHeavyOfBoth, Cond.selects RX4 yX4_gatherHeavyOfBoth yX4_gatherHeavyOfBoth]
def wsX4_bothAt_r6 : List Cond := [Cond.code yX4_gatherHeavyOfBoth cX4_gatherHeavyOfBoth 10 none, Cond.methodLink RX4 91 Lib.Math.min.name, Cond.fieldLink RX4 39 "MajorityIndex" "otherVotes" "LMajorityIndex$Votes;", Cond.methodLink RX4 96 Lib.Math.max.name, Cond.static Lib.Math.max.name, Cond.code Lib.Math.max.name Lib.Math.max.code 2 (some .int), Cond.fieldLink RX4 136 "MajorityIndex$Votes" "number" "[I", Cond.methodLink RX4 170 yX2_gather, Cond.instanceMethod yX2_gather, Cond.selects RX2 yX2_gather yX2_gather, Cond.code yX2_gather cX2_gather 6 none, Cond.methodLink RX2 106 yX2_isPart, Cond.instanceMethod yX2_isPart, Cond.selects RX2 yX2_isPart yX2_isPart, Cond.code yX2_isPart cX2_isPart 4 (some .boolean), Cond.methodLink RX4 266 yX3_join, Cond.instanceMethod yX3_join, Cond.selects RX3 yX3_join yX3_join, Cond.code yX3_join cX3_join 3 none, Cond.methodLink RX3 28 yX3_add, Cond.methodLink RX4 270 yX3_cancel, Cond.methodLink RX4 113 yX0_oftenIn, Cond.instanceMethod yX0_oftenIn, Cond.selects RX0 yX0_oftenIn yX0_oftenIn]
def wsX4_bothAt_r7 : List Cond := [Cond.code yX0_oftenIn cX0_oftenIn 6 (some .int), Cond.fieldLink RX0 9 "MajorityIndex$Row" "cell" "[I", Cond.methodLink RX4 262 yX3_keepHeavy, Cond.instanceMethod yX3_keepHeavy, Cond.selects RX3 yX3_keepHeavy yX3_keepHeavy, Cond.code yX3_keepHeavy cX3_keepHeavy 6 none, Cond.static yX4_isHeavy, Cond.code yX4_isHeavy cX4_isHeavy 4 (some .boolean)]
def wsX4_bothAt : List Cond := .code yX4_bothAt cX4_bothAt 8 (some .int) :: ((wsX4_bothAt_r1 ++ (wsX4_bothAt_r2 ++ (wsX4_bothAt_r3 ++ (wsX4_bothAt_r4 ++ (wsX4_bothAt_r5 ++ (wsX4_bothAt_r6 ++ wsX4_bothAt_r7)))))) ++ wsX40 ++ wsX30 ++ wsX00 ++ wsX20)
def wsX4_longest : List Cond := .code yX4_longest cX4_longest 9 (some .int) :: ([.fieldLink RX4 12 "MajorityIndex" "row" "LMajorityIndex$Row;", .fieldLink RX4 57 "MajorityIndex$Row" "length" "I", .methodLink RX4 68 yX4_isValue, .static yX4_isValue, .initialized RX4, .code yX4_isValue cX4_isValue 1 (some .boolean), .methodLink RX4 186 yX4_isShare, .static yX4_isShare, .code yX4_isShare cX4_isShare 2 (some .boolean), .methodLink RX4 218 yX4_farthestHeavy, .instanceMethod yX4_farthestHeavy, .selects RX4 yX4_farthestHeavy yX4_farthestHeavy, .code yX4_farthestHeavy cX4_farthestHeavy 8 (some .int), .fieldLink RX4 110 "MajorityIndex$Row" "cell" "[I", .methodLink RX4 273 yX4_isHeavy, .static yX4_isHeavy, .code yX4_isHeavy cX4_isHeavy 4 (some .boolean)] ++ wsX40 ++ wsX00)
def wsX4_reach_r1 : List Cond := [Cond.fieldLink RX4 12 "MajorityIndex" "row" "LMajorityIndex$Row;", Cond.fieldLink RX4 28 "MajorityIndex" "tally" "LMajorityIndex$Tally;", Cond.fieldLink RX4 57 "MajorityIndex$Row" "length" "I", Cond.methodLink RX4 64 yX0_hasPlace, Cond.instanceMethod yX0_hasPlace, Cond.selects RX0 yX0_hasPlace yX0_hasPlace, Cond.initialized RX0, Cond.code yX0_hasPlace cX0_hasPlace 2 (some .boolean), Cond.fieldLink RX0 15 "MajorityIndex$Row" "length" "I", Cond.methodLink RX4 117 yX1_learn, Cond.instanceMethod yX1_learn, Cond.selects RX1 yX1_learn yX1_learn, Cond.initialized RX1, Cond.code yX1_learn cX1_learn 3 none, Cond.fieldLink RX1 18 "MajorityIndex$Row" "length" "I", Cond.fieldLink RX1 9 "MajorityIndex$Tally" "kind" "[I", Cond.methodLink RX1 24 yX0_firstLike, Cond.instanceMethod yX0_firstLike, Cond.selects RX0 yX0_firstLike yX0_firstLike, Cond.code yX0_firstLike cX0_firstLike 3 (some .int), Cond.fieldLink RX0 9 "MajorityIndex$Row" "cell" "[I", Cond.methodLink RX4 221 yX1_clear, Cond.instanceMethod yX1_clear, Cond.selects RX1 yX1_clear yX1_clear]
def wsX4_reach_r2 : List Cond := [Cond.code yX1_clear cX1_clear 1 none, Cond.fieldLink RX1 15 "MajorityIndex$Tally" "often" "[I", Cond.fieldLink RX1 34 "MajorityIndex$Tally" "taken" "I", Cond.fieldLink RX1 37 "MajorityIndex$Tally" "most" "I", Cond.methodLink RX1 28 yJ7_fill_53178, Cond.static yJ7_fill_53178, Cond.initialized RJ7, Cond.code yJ7_fill_53178 cJ7_fill_53178 4 none, Cond.methodLink RX4 224 yX1_take, Cond.instanceMethod yX1_take, Cond.selects RX1 yX1_take yX1_take, Cond.code yX1_take cX1_take 3 none, Cond.methodLink RX4 227 yX1_hasMajority, Cond.instanceMethod yX1_hasMajority, Cond.selects RX1 yX1_hasMajority yX1_hasMajority, Cond.code yX1_hasMajority cX1_hasMajority 1 (some .boolean)]
def wsX4_reach : List Cond := .code yX4_reach cX4_reach 4 (some .int) :: ((wsX4_reach_r1 ++ wsX4_reach_r2) ++ wsX40 ++ wsX00 ++ wsX10)
def wsX4_parted_r1 : List Cond := [Cond.fieldLink RX4 12 "MajorityIndex" "row" "LMajorityIndex$Row;", Cond.fieldLink RX4 28 "MajorityIndex" "tally" "LMajorityIndex$Tally;", Cond.fieldLink RX4 46 "MajorityIndex" "fewest" "[I", Cond.methodLink RX4 91 Lib.Math.min.name, Cond.static Lib.Math.min.name, Cond.initialized "java/lang/Math", Cond.code Lib.Math.min.name Lib.Math.min.code 2 (some .int), Cond.methodLink RX4 79 yX0_hasRange, Cond.instanceMethod yX0_hasRange, Cond.selects RX0 yX0_hasRange yX0_hasRange, Cond.initialized RX0, Cond.code yX0_hasRange cX0_hasRange 3 (some .boolean), Cond.fieldLink RX0 15 "MajorityIndex$Row" "length" "I", Cond.methodLink RX4 117 yX1_learn, Cond.instanceMethod yX1_learn, Cond.selects RX1 yX1_learn yX1_learn, Cond.initialized RX1, Cond.code yX1_learn cX1_learn 3 none, Cond.fieldLink RX1 18 "MajorityIndex$Row" "length" "I", Cond.fieldLink RX1 9 "MajorityIndex$Tally" "kind" "[I", Cond.methodLink RX1 24 yX0_firstLike, Cond.instanceMethod yX0_firstLike, Cond.selects RX0 yX0_firstLike yX0_firstLike, Cond.code yX0_firstLike cX0_firstLike 3 (some .int)]
def wsX4_parted_r2 : List Cond := [Cond.fieldLink RX0 9 "MajorityIndex$Row" "cell" "[I", Cond.methodLink RX4 231 yJ7_fill_53178, Cond.static yJ7_fill_53178, Cond.initialized RJ7, Cond.code yJ7_fill_53178 cJ7_fill_53178 4 none, Cond.methodLink RX4 221 yX1_clear, Cond.instanceMethod yX1_clear, Cond.selects RX1 yX1_clear yX1_clear, Cond.code yX1_clear cX1_clear 1 none, Cond.fieldLink RX1 15 "MajorityIndex$Tally" "often" "[I", Cond.fieldLink RX1 34 "MajorityIndex$Tally" "taken" "I", Cond.fieldLink RX1 37 "MajorityIndex$Tally" "most" "I", Cond.methodLink RX1 28 yJ7_fill_53178, Cond.methodLink RX4 224 yX1_take, Cond.instanceMethod yX1_take, Cond.selects RX1 yX1_take yX1_take, Cond.code yX1_take cX1_take 3 none, Cond.methodLink RX4 227 yX1_hasMajority, Cond.instanceMethod yX1_hasMajority, Cond.selects RX1 yX1_hasMajority yX1_hasMajority, Cond.code yX1_hasMajority cX1_hasMajority 1 (some .boolean)]
def wsX4_parted : List Cond := .code yX4_parted cX4_parted 5 (some .int) :: ((wsX4_parted_r1 ++ wsX4_parted_r2) ++ wsX40 ++ wsX00 ++ wsX10)
def wsX4_cut : List Cond := .code yX4_cut cX4_cut 6 (some .int) :: ([.fieldLink RX4 12 "MajorityIndex" "row" "LMajorityIndex$Row;", .constant RX4 102 (-40000), .methodLink RX4 79 yX0_hasRange, .instanceMethod yX0_hasRange, .selects RX0 yX0_hasRange yX0_hasRange, .initialized RX0, .code yX0_hasRange cX0_hasRange 3 (some .boolean), .fieldLink RX0 15 "MajorityIndex$Row" "length" "I", .methodLink RX4 207 yX0_leader, .instanceMethod yX0_leader, .selects RX0 yX0_leader yX0_leader, .code yX0_leader cX0_leader 6 (some .int), .constant RX0 23 (-40000), .fieldLink RX0 9 "MajorityIndex$Row" "cell" "[I", .methodLink RX0 24 yX0_oftenIn, .instanceMethod yX0_oftenIn, .selects RX0 yX0_oftenIn yX0_oftenIn, .code yX0_oftenIn cX0_oftenIn 6 (some .int), .static yX4_isHeavy, .initialized RX4, .code yX4_isHeavy cX4_isHeavy 4 (some .boolean)] ++ wsX40 ++ wsX00)
def wsX4_majorities_r1 : List Cond := [Cond.fieldLink RX4 28 "MajorityIndex" "tally" "LMajorityIndex$Tally;", Cond.fieldLink RX4 12 "MajorityIndex" "row" "LMajorityIndex$Row;", Cond.fieldLink RX4 57 "MajorityIndex$Row" "length" "I", Cond.methodLink RX4 117 yX1_learn, Cond.instanceMethod yX1_learn, Cond.selects RX1 yX1_learn yX1_learn, Cond.initialized RX1, Cond.code yX1_learn cX1_learn 3 none, Cond.fieldLink RX1 18 "MajorityIndex$Row" "length" "I", Cond.fieldLink RX1 9 "MajorityIndex$Tally" "kind" "[I", Cond.methodLink RX1 24 yX0_firstLike, Cond.instanceMethod yX0_firstLike, Cond.selects RX0 yX0_firstLike yX0_firstLike, Cond.initialized RX0, Cond.code yX0_firstLike cX0_firstLike 3 (some .int), Cond.fieldLink RX0 9 "MajorityIndex$Row" "cell" "[I", Cond.methodLink RX4 221 yX1_clear, Cond.instanceMethod yX1_clear, Cond.selects RX1 yX1_clear yX1_clear, Cond.code yX1_clear cX1_clear 1 none, Cond.fieldLink RX1 15 "MajorityIndex$Tally" "often" "[I", Cond.fieldLink RX1 34 "MajorityIndex$Tally" "taken" "I", Cond.fieldLink RX1 37 "MajorityIndex$Tally" "most" "I", Cond.methodLink RX1 28 yJ7_fill_53178]
def wsX4_majorities_r2 : List Cond := [Cond.static yJ7_fill_53178, Cond.initialized RJ7, Cond.code yJ7_fill_53178 cJ7_fill_53178 4 none, Cond.methodLink RX4 224 yX1_take, Cond.instanceMethod yX1_take, Cond.selects RX1 yX1_take yX1_take, Cond.code yX1_take cX1_take 3 none, Cond.methodLink RX4 227 yX1_hasMajority, Cond.instanceMethod yX1_hasMajority, Cond.selects RX1 yX1_hasMajority yX1_hasMajority, Cond.code yX1_hasMajority cX1_hasMajority 1 (some .boolean)]
def wsX4_majorities : List Cond := .code yX4_majorities cX4_majorities 4 (some .int) :: ((wsX4_majorities_r1 ++ wsX4_majorities_r2) ++ wsX40 ++ wsX00 ++ wsX10)
def wsX4_windows_r1 : List Cond := [Cond.fieldLink RX4 12 "MajorityIndex" "row" "LMajorityIndex$Row;", Cond.fieldLink RX4 57 "MajorityIndex$Row" "length" "I", Cond.constant RX4 102 (-40000), Cond.fieldLink RX4 110 "MajorityIndex$Row" "cell" "[I", Cond.fieldLink RX4 42 "MajorityIndex" "wins" "[I", Cond.methodLink RX4 186 yX4_isShare, Cond.static yX4_isShare, Cond.initialized RX4, Cond.code yX4_isShare cX4_isShare 2 (some .boolean), Cond.methodLink RX4 237 yX4_slideWindow, Cond.instanceMethod yX4_slideWindow, Cond.selects RX4 yX4_slideWindow yX4_slideWindow, Cond.code yX4_slideWindow cX4_slideWindow 6 (some .int), Cond.fieldLink RX4 28 "MajorityIndex" "tally" "LMajorityIndex$Tally;", Cond.methodLink RX4 117 yX1_learn, Cond.instanceMethod yX1_learn, Cond.selects RX1 yX1_learn yX1_learn, Cond.initialized RX1, Cond.code yX1_learn cX1_learn 3 none, Cond.fieldLink RX1 18 "MajorityIndex$Row" "length" "I", Cond.fieldLink RX1 9 "MajorityIndex$Tally" "kind" "[I", Cond.methodLink RX1 24 yX0_firstLike, Cond.instanceMethod yX0_firstLike, Cond.selects RX0 yX0_firstLike yX0_firstLike]
def wsX4_windows_r2 : List Cond := [Cond.initialized RX0, Cond.code yX0_firstLike cX0_firstLike 3 (some .int), Cond.fieldLink RX0 9 "MajorityIndex$Row" "cell" "[I", Cond.methodLink RX4 221 yX1_clear, Cond.instanceMethod yX1_clear, Cond.selects RX1 yX1_clear yX1_clear, Cond.code yX1_clear cX1_clear 1 none, Cond.fieldLink RX1 15 "MajorityIndex$Tally" "often" "[I", Cond.fieldLink RX1 34 "MajorityIndex$Tally" "taken" "I", Cond.fieldLink RX1 37 "MajorityIndex$Tally" "most" "I", Cond.methodLink RX1 28 yJ7_fill_53178, Cond.static yJ7_fill_53178, Cond.initialized RJ7, Cond.code yJ7_fill_53178 cJ7_fill_53178 4 none, Cond.methodLink RX4 231 yJ7_fill_53178, Cond.methodLink RX4 224 yX1_take, Cond.instanceMethod yX1_take, Cond.selects RX1 yX1_take yX1_take, Cond.code yX1_take cX1_take 3 none, Cond.methodLink RX4 277 yX1_drop, Cond.instanceMethod yX1_drop, Cond.selects RX1 yX1_drop yX1_drop, Cond.code yX1_drop cX1_drop 2 none, Cond.methodLink RX4 280 yX4_creditHeavy]
def wsX4_windows_r3 : List Cond := [Cond.instanceMethod yX4_creditHeavy, Cond.selects RX4 yX4_creditHeavy yX4_creditHeavy, Cond.code yX4_creditHeavy cX4_creditHeavy 6 (some .boolean), Cond.fieldLink RX4 283 "MajorityIndex$Tally" "often" "[I", Cond.methodLink RX4 273 yX4_isHeavy, Cond.static yX4_isHeavy, Cond.code yX4_isHeavy cX4_isHeavy 4 (some .boolean), Cond.methodLink RX4 240 yX4_kindOfMostWins, Cond.instanceMethod yX4_kindOfMostWins, Cond.selects RX4 yX4_kindOfMostWins yX4_kindOfMostWins, Cond.code yX4_kindOfMostWins cX4_kindOfMostWins 5 (some .int)]
def wsX4_windows : List Cond := .code yX4_windows cX4_windows 7 (some .int) :: ((wsX4_windows_r1 ++ (wsX4_windows_r2 ++ wsX4_windows_r3)) ++ wsX40 ++ wsX00 ++ wsX10)
def wsX4_needs_r1 : List Cond := [Cond.fieldLink RX4 12 "MajorityIndex" "row" "LMajorityIndex$Row;", Cond.methodLink RX4 96 Lib.Math.max.name, Cond.static Lib.Math.max.name, Cond.initialized "java/lang/Math", Cond.code Lib.Math.max.name Lib.Math.max.code 2 (some .int), Cond.methodLink RX4 68 yX4_isValue, Cond.static yX4_isValue, Cond.initialized RX4, Cond.code yX4_isValue cX4_isValue 1 (some .boolean), Cond.methodLink RX4 79 yX0_hasRange, Cond.instanceMethod yX0_hasRange, Cond.selects RX0 yX0_hasRange yX0_hasRange, Cond.initialized RX0, Cond.code yX0_hasRange cX0_hasRange 3 (some .boolean), Cond.fieldLink RX0 15 "MajorityIndex$Row" "length" "I", Cond.methodLink RX4 186 yX4_isShare, Cond.static yX4_isShare, Cond.code yX4_isShare cX4_isShare 2 (some .boolean), Cond.methodLink RX4 243 yX4_mostWithoutHeavy, Cond.static yX4_mostWithoutHeavy, Cond.code yX4_mostWithoutHeavy cX4_mostWithoutHeavy 3 (some .int), Cond.methodLink RX4 113 yX0_oftenIn, Cond.instanceMethod yX0_oftenIn, Cond.selects RX0 yX0_oftenIn yX0_oftenIn]
def wsX4_needs_r2 : List Cond := [Cond.code yX0_oftenIn cX0_oftenIn 6 (some .int), Cond.fieldLink RX0 9 "MajorityIndex$Row" "cell" "[I"]
def wsX4_needs : List Cond := .code yX4_needs cX4_needs 7 (some .int) :: ((wsX4_needs_r1 ++ wsX4_needs_r2) ++ wsX40 ++ wsX00)
def wsX4_spares_r1 : List Cond := [Cond.fieldLink RX4 12 "MajorityIndex" "row" "LMajorityIndex$Row;", Cond.methodLink RX4 96 Lib.Math.max.name, Cond.static Lib.Math.max.name, Cond.initialized "java/lang/Math", Cond.code Lib.Math.max.name Lib.Math.max.code 2 (some .int), Cond.methodLink RX4 68 yX4_isValue, Cond.static yX4_isValue, Cond.initialized RX4, Cond.code yX4_isValue cX4_isValue 1 (some .boolean), Cond.methodLink RX4 79 yX0_hasRange, Cond.instanceMethod yX0_hasRange, Cond.selects RX0 yX0_hasRange yX0_hasRange, Cond.initialized RX0, Cond.code yX0_hasRange cX0_hasRange 3 (some .boolean), Cond.fieldLink RX0 15 "MajorityIndex$Row" "length" "I", Cond.methodLink RX4 186 yX4_isShare, Cond.static yX4_isShare, Cond.code yX4_isShare cX4_isShare 2 (some .boolean), Cond.methodLink RX4 113 yX0_oftenIn, Cond.instanceMethod yX0_oftenIn, Cond.selects RX0 yX0_oftenIn yX0_oftenIn, Cond.code yX0_oftenIn cX0_oftenIn 6 (some .int), Cond.fieldLink RX0 9 "MajorityIndex$Row" "cell" "[I", Cond.methodLink RX4 243 yX4_mostWithoutHeavy]
def wsX4_spares_r2 : List Cond := [Cond.static yX4_mostWithoutHeavy, Cond.code yX4_mostWithoutHeavy cX4_mostWithoutHeavy 3 (some .int)]
def wsX4_spares : List Cond := .code yX4_spares cX4_spares 6 (some .int) :: ((wsX4_spares_r1 ++ wsX4_spares_r2) ++ wsX40 ++ wsX00)
def wsX4_would_r1 : List Cond := [Cond.fieldLink RX4 12 "MajorityIndex" "row" "LMajorityIndex$Row;", Cond.constant RX4 102 (-40000), Cond.fieldLink RX4 110 "MajorityIndex$Row" "cell" "[I", Cond.methodLink RX4 64 yX0_hasPlace, Cond.instanceMethod yX0_hasPlace, Cond.selects RX0 yX0_hasPlace yX0_hasPlace, Cond.initialized RX0, Cond.code yX0_hasPlace cX0_hasPlace 2 (some .boolean), Cond.fieldLink RX0 15 "MajorityIndex$Row" "length" "I", Cond.methodLink RX4 68 yX4_isValue, Cond.static yX4_isValue, Cond.initialized RX4, Cond.code yX4_isValue cX4_isValue 1 (some .boolean), Cond.methodLink RX4 79 yX0_hasRange, Cond.instanceMethod yX0_hasRange, Cond.selects RX0 yX0_hasRange yX0_hasRange, Cond.code yX0_hasRange cX0_hasRange 3 (some .boolean), Cond.methodLink RX4 207 yX0_leader, Cond.instanceMethod yX0_leader, Cond.selects RX0 yX0_leader yX0_leader, Cond.code yX0_leader cX0_leader 6 (some .int), Cond.constant RX0 23 (-40000), Cond.fieldLink RX0 9 "MajorityIndex$Row" "cell" "[I", Cond.methodLink RX0 24 yX0_oftenIn]
def wsX4_would_r2 : List Cond := [Cond.instanceMethod yX0_oftenIn, Cond.selects RX0 yX0_oftenIn yX0_oftenIn, Cond.code yX0_oftenIn cX0_oftenIn 6 (some .int), Cond.static yX4_isHeavy, Cond.code yX4_isHeavy cX4_isHeavy 4 (some .boolean)]
def wsX4_would : List Cond := .code yX4_would cX4_would 7 (some .int) :: ((wsX4_would_r1 ++ wsX4_would_r2) ++ wsX40 ++ wsX00)
def wsX4_swings_r1 : List Cond := [Cond.fieldLink RX4 12 "MajorityIndex" "row" "LMajorityIndex$Row;", Cond.methodLink RX4 79 yX0_hasRange, Cond.instanceMethod yX0_hasRange, Cond.selects RX0 yX0_hasRange yX0_hasRange, Cond.initialized RX0, Cond.code yX0_hasRange cX0_hasRange 3 (some .boolean), Cond.fieldLink RX0 15 "MajorityIndex$Row" "length" "I", Cond.methodLink RX4 68 yX4_isValue, Cond.static yX4_isValue, Cond.initialized RX4, Cond.code yX4_isValue cX4_isValue 1 (some .boolean), Cond.methodLink RX4 71 yX4_laidTree, Cond.instanceMethod yX4_laidTree, Cond.selects RX4 yX4_laidTree yX4_laidTree, Cond.code yX4_laidTree cX4_laidTree 1 (some (.object "MajorityIndex$Tree")), Cond.fieldLink RX4 53 "MajorityIndex" "treeIsOld" "Z", Cond.fieldLink RX4 21 "MajorityIndex" "tree" "LMajorityIndex$Tree;", Cond.fieldLink RX4 49 "MajorityIndex" "slotsNow" "I", Cond.fieldLink RX4 204 "MajorityIndex$Tree" "slotsHere" "I", Cond.fieldLink RX4 57 "MajorityIndex$Row" "length" "I", Cond.methodLink RX4 259 yX2_layRanges, Cond.instanceMethod yX2_layRanges, Cond.selects RX2 yX2_layRanges yX2_layRanges, Cond.initialized RX2]
def wsX4_swings_r2 : List Cond := [Cond.code yX2_layRanges cX2_layRanges 2 none, Cond.fieldLink RX2 40 "MajorityIndex$Tree" "row" "LMajorityIndex$Row;", Cond.fieldLink RX2 44 "MajorityIndex$Row" "length" "I", Cond.fieldLink RX2 50 "MajorityIndex$Tree" "nodes" "I", Cond.fieldLink RX2 18 "MajorityIndex$Tree" "from" "[I", Cond.fieldLink RX2 22 "MajorityIndex$Tree" "to" "[I", Cond.methodLink RX2 53 yX2_layBelow, Cond.instanceMethod yX2_layBelow, Cond.selects RX2 yX2_layBelow yX2_layBelow, Cond.code yX2_layBelow cX2_layBelow 4 none, Cond.methodLink RX2 57 yX2_rightBelow, Cond.instanceMethod yX2_rightBelow, Cond.selects RX2 yX2_rightBelow yX2_rightBelow, Cond.code yX2_rightBelow cX2_rightBelow 3 (some .int), Cond.methodLink RX4 87 yX2_renew, Cond.instanceMethod yX2_renew, Cond.selects RX2 yX2_renew yX2_renew, Cond.code yX2_renew cX2_renew 5 (some .int), Cond.methodLink RX2 61 yX2_putTogether, Cond.instanceMethod yX2_putTogether, Cond.selects RX2 yX2_putTogether yX2_putTogether, Cond.code yX2_putTogether cX2_putTogether 2 none, Cond.fieldLink RX2 12 "MajorityIndex$Tree" "joined" "LMajorityIndex$Votes;", Cond.fieldLink RX2 74 "MajorityIndex$Row" "cell" "[I"]
def wsX4_swings_r3 : List Cond := [Cond.fieldLink RX2 85 "MajorityIndex$Tree" "slotsHere" "I", Cond.methodLink RX2 71 yX3_clear, Cond.instanceMethod yX3_clear, Cond.selects RX3 yX3_clear yX3_clear, Cond.initialized RX3, Cond.code yX3_clear cX3_clear 1 none, Cond.fieldLink RX3 18 "MajorityIndex$Votes" "size" "I", Cond.fieldLink RX3 22 "MajorityIndex$Votes" "lost" "I", Cond.fieldLink RX3 25 "MajorityIndex$Votes" "lessBy" "I", Cond.methodLink RX2 77 yX3_add, Cond.instanceMethod yX3_add, Cond.selects RX3 yX3_add yX3_add, Cond.code yX3_add cX3_add 4 none, Cond.fieldLink RX3 9 "MajorityIndex$Votes" "value" "[I", Cond.fieldLink RX3 15 "MajorityIndex$Votes" "number" "[I", Cond.methodLink RX2 81 yX2_joinNode, Cond.instanceMethod yX2_joinNode, Cond.selects RX2 yX2_joinNode yX2_joinNode, Cond.code yX2_joinNode cX2_joinNode 5 none, Cond.fieldLink RX2 25 "MajorityIndex$Tree" "size" "[I", Cond.fieldLink RX2 34 "MajorityIndex$Tree" "value" "[I", Cond.fieldLink RX2 37 "MajorityIndex$Tree" "number" "[I", Cond.fieldLink RX2 91 "MajorityIndex$Votes" "lost" "I", Cond.fieldLink RX2 28 "MajorityIndex$Tree" "lossOf" "[I"]
def wsX4_swings_r4 : List Cond := [Cond.methodLink RX2 88 yX3_cancel, Cond.instanceMethod yX3_cancel, Cond.selects RX3 yX3_cancel yX3_cancel, Cond.code yX3_cancel cX3_cancel 4 none, Cond.methodLink RX3 32 yX3_order, Cond.instanceMethod yX3_order, Cond.selects RX3 yX3_order yX3_order, Cond.code yX3_order cX3_order 3 none, Cond.methodLink RX3 35 yX3_isAhead, Cond.instanceMethod yX3_isAhead, Cond.selects RX3 yX3_isAhead yX3_isAhead, Cond.code yX3_isAhead cX3_isAhead 3 (some .boolean), Cond.methodLink RX3 39 yX3_exchange, Cond.instanceMethod yX3_exchange, Cond.selects RX3 yX3_exchange yX3_exchange, Cond.code yX3_exchange cX3_exchange 5 none, Cond.methodLink RX2 64 yX2_isJoined, Cond.instanceMethod yX2_isJoined, Cond.selects RX2 yX2_isJoined yX2_isJoined, Cond.code yX2_isJoined cX2_isJoined 4 (some .boolean), Cond.fieldLink RX2 94 "MajorityIndex$Votes" "size" "I", Cond.fieldLink RX2 96 "MajorityIndex$Votes" "value" "[I", Cond.fieldLink RX2 97 "MajorityIndex$Votes" "number" "[I", Cond.methodLink RX2 68 yX2_keepJoined]
def wsX4_swings_r5 : List Cond := [Cond.instanceMethod yX2_keepJoined, Cond.selects RX2 yX2_keepJoined yX2_keepJoined, Cond.code yX2_keepJoined cX2_keepJoined 4 none, Cond.methodLink RX2 98 Lib.Math.min.name, Cond.static Lib.Math.min.name, Cond.initialized "java/lang/Math", Cond.code Lib.Math.min.name Lib.Math.min.code 2 (some .int), Cond.fieldLink RX2 31 "MajorityIndex$Tree" "lessBy" "[I", Cond.fieldLink RX2 104 "MajorityIndex$Votes" "lessBy" "I", Cond.methodLink RX4 246 yX4_rootTotalWith, Cond.instanceMethod yX4_rootTotalWith, Cond.selects RX4 yX4_rootTotalWith yX4_rootTotalWith, Cond.code yX4_rootTotalWith cX4_rootTotalWith 6 (some .int), Cond.fieldLink RX4 110 "MajorityIndex$Row" "cell" "[I", Cond.fieldLink RX4 35 "MajorityIndex" "votes" "LMajorityIndex$Votes;", Cond.methodLink RX4 129 yX2_copyTo, Cond.instanceMethod yX2_copyTo, Cond.selects RX2 yX2_copyTo yX2_copyTo, Cond.code yX2_copyTo cX2_copyTo 3 none, Cond.methodLink RX4 176 yX3_total, Cond.instanceMethod yX3_total, Cond.selects RX3 yX3_total yX3_total, Cond.code yX3_total cX3_total 3 (some .int)]
def wsX4_swings : List Cond := .code yX4_swings cX4_swings 10 (some .int) :: ((wsX4_swings_r1 ++ (wsX4_swings_r2 ++ (wsX4_swings_r3 ++ (wsX4_swings_r4 ++ wsX4_swings_r5)))) ++ wsX40 ++ wsX00 ++ wsX20 ++ wsX30)
def wsX4_told_r1 : List Cond := [Cond.fieldLink RX4 12 "MajorityIndex" "row" "LMajorityIndex$Row;", Cond.fieldLink RX4 57 "MajorityIndex$Row" "length" "I", Cond.fieldLink RX4 49 "MajorityIndex" "slotsNow" "I", Cond.fieldLink RX4 163 "MajorityIndex$Tree" "nodes" "I", Cond.fieldLink RX4 139 "MajorityIndex$Tree" "lossOf" "[I", Cond.methodLink RX4 71 yX4_laidTree, Cond.instanceMethod yX4_laidTree, Cond.selects RX4 yX4_laidTree yX4_laidTree, Cond.initialized RX4, Cond.code yX4_laidTree cX4_laidTree 1 (some (.object "MajorityIndex$Tree")), Cond.fieldLink RX4 53 "MajorityIndex" "treeIsOld" "Z", Cond.fieldLink RX4 21 "MajorityIndex" "tree" "LMajorityIndex$Tree;", Cond.fieldLink RX4 204 "MajorityIndex$Tree" "slotsHere" "I", Cond.methodLink RX4 259 yX2_layRanges, Cond.instanceMethod yX2_layRanges, Cond.selects RX2 yX2_layRanges yX2_layRanges, Cond.initialized RX2, Cond.code yX2_layRanges cX2_layRanges 2 none, Cond.fieldLink RX2 40 "MajorityIndex$Tree" "row" "LMajorityIndex$Row;", Cond.fieldLink RX2 44 "MajorityIndex$Row" "length" "I", Cond.fieldLink RX2 50 "MajorityIndex$Tree" "nodes" "I", Cond.fieldLink RX2 18 "MajorityIndex$Tree" "from" "[I", Cond.fieldLink RX2 22 "MajorityIndex$Tree" "to" "[I", Cond.methodLink RX2 53 yX2_layBelow]
def wsX4_told_r2 : List Cond := [Cond.instanceMethod yX2_layBelow, Cond.selects RX2 yX2_layBelow yX2_layBelow, Cond.code yX2_layBelow cX2_layBelow 4 none, Cond.methodLink RX2 57 yX2_rightBelow, Cond.instanceMethod yX2_rightBelow, Cond.selects RX2 yX2_rightBelow yX2_rightBelow, Cond.code yX2_rightBelow cX2_rightBelow 3 (some .int), Cond.methodLink RX4 87 yX2_renew, Cond.instanceMethod yX2_renew, Cond.selects RX2 yX2_renew yX2_renew, Cond.code yX2_renew cX2_renew 5 (some .int), Cond.methodLink RX2 61 yX2_putTogether, Cond.instanceMethod yX2_putTogether, Cond.selects RX2 yX2_putTogether yX2_putTogether, Cond.code yX2_putTogether cX2_putTogether 2 none, Cond.fieldLink RX2 12 "MajorityIndex$Tree" "joined" "LMajorityIndex$Votes;", Cond.fieldLink RX2 74 "MajorityIndex$Row" "cell" "[I", Cond.fieldLink RX2 85 "MajorityIndex$Tree" "slotsHere" "I", Cond.methodLink RX2 71 yX3_clear, Cond.instanceMethod yX3_clear, Cond.selects RX3 yX3_clear yX3_clear, Cond.initialized RX3, Cond.code yX3_clear cX3_clear 1 none, Cond.fieldLink RX3 18 "MajorityIndex$Votes" "size" "I"]
def wsX4_told_r3 : List Cond := [Cond.fieldLink RX3 22 "MajorityIndex$Votes" "lost" "I", Cond.fieldLink RX3 25 "MajorityIndex$Votes" "lessBy" "I", Cond.methodLink RX2 77 yX3_add, Cond.instanceMethod yX3_add, Cond.selects RX3 yX3_add yX3_add, Cond.code yX3_add cX3_add 4 none, Cond.fieldLink RX3 9 "MajorityIndex$Votes" "value" "[I", Cond.fieldLink RX3 15 "MajorityIndex$Votes" "number" "[I", Cond.methodLink RX2 81 yX2_joinNode, Cond.instanceMethod yX2_joinNode, Cond.selects RX2 yX2_joinNode yX2_joinNode, Cond.code yX2_joinNode cX2_joinNode 5 none, Cond.fieldLink RX2 25 "MajorityIndex$Tree" "size" "[I", Cond.fieldLink RX2 34 "MajorityIndex$Tree" "value" "[I", Cond.fieldLink RX2 37 "MajorityIndex$Tree" "number" "[I", Cond.fieldLink RX2 91 "MajorityIndex$Votes" "lost" "I", Cond.fieldLink RX2 28 "MajorityIndex$Tree" "lossOf" "[I", Cond.methodLink RX2 88 yX3_cancel, Cond.instanceMethod yX3_cancel, Cond.selects RX3 yX3_cancel yX3_cancel, Cond.code yX3_cancel cX3_cancel 4 none, Cond.methodLink RX3 32 yX3_order, Cond.instanceMethod yX3_order, Cond.selects RX3 yX3_order yX3_order]
def wsX4_told_r4 : List Cond := [Cond.code yX3_order cX3_order 3 none, Cond.methodLink RX3 35 yX3_isAhead, Cond.instanceMethod yX3_isAhead, Cond.selects RX3 yX3_isAhead yX3_isAhead, Cond.code yX3_isAhead cX3_isAhead 3 (some .boolean), Cond.methodLink RX3 39 yX3_exchange, Cond.instanceMethod yX3_exchange, Cond.selects RX3 yX3_exchange yX3_exchange, Cond.code yX3_exchange cX3_exchange 5 none, Cond.methodLink RX2 64 yX2_isJoined, Cond.instanceMethod yX2_isJoined, Cond.selects RX2 yX2_isJoined yX2_isJoined, Cond.code yX2_isJoined cX2_isJoined 4 (some .boolean), Cond.fieldLink RX2 94 "MajorityIndex$Votes" "size" "I", Cond.fieldLink RX2 96 "MajorityIndex$Votes" "value" "[I", Cond.fieldLink RX2 97 "MajorityIndex$Votes" "number" "[I", Cond.methodLink RX2 68 yX2_keepJoined, Cond.instanceMethod yX2_keepJoined, Cond.selects RX2 yX2_keepJoined yX2_keepJoined, Cond.code yX2_keepJoined cX2_keepJoined 4 none, Cond.methodLink RX2 98 Lib.Math.min.name, Cond.static Lib.Math.min.name, Cond.initialized "java/lang/Math", Cond.code Lib.Math.min.name Lib.Math.min.code 2 (some .int)]
def wsX4_told_r5 : List Cond := [Cond.fieldLink RX2 31 "MajorityIndex$Tree" "lessBy" "[I", Cond.fieldLink RX2 104 "MajorityIndex$Votes" "lessBy" "I", Cond.methodLink RX4 250 yX2_nodesWithMajority, Cond.instanceMethod yX2_nodesWithMajority, Cond.selects RX2 yX2_nodesWithMajority yX2_nodesWithMajority, Cond.code yX2_nodesWithMajority cX2_nodesWithMajority 3 (some .int), Cond.constant RX2 120 (-40000), Cond.methodLink RX2 117 yX0_leader, Cond.instanceMethod yX0_leader, Cond.selects RX0 yX0_leader yX0_leader, Cond.initialized RX0, Cond.code yX0_leader cX0_leader 6 (some .int), Cond.constant RX0 23 (-40000), Cond.fieldLink RX0 9 "MajorityIndex$Row" "cell" "[I", Cond.methodLink RX0 24 yX0_oftenIn, Cond.instanceMethod yX0_oftenIn, Cond.selects RX0 yX0_oftenIn yX0_oftenIn, Cond.code yX0_oftenIn cX0_oftenIn 6 (some .int), Cond.static yX4_isHeavy, Cond.code yX4_isHeavy cX4_isHeavy 4 (some .boolean), Cond.methodLink RX4 253 yX2_deepest, Cond.instanceMethod yX2_deepest, Cond.selects RX2 yX2_deepest yX2_deepest, Cond.code yX2_deepest cX2_deepest 3 (some .int)]
def wsX4_told_r6 : List Cond := [Cond.methodLink RX4 256 yX2_allLosses, Cond.instanceMethod yX2_allLosses, Cond.selects RX2 yX2_allLosses yX2_allLosses, Cond.code yX2_allLosses cX2_allLosses 3 (some .int)]
def wsX4_told : List Cond := .code yX4_told cX4_told 2 (some .int) :: ((wsX4_told_r1 ++ (wsX4_told_r2 ++ (wsX4_told_r3 ++ (wsX4_told_r4 ++ (wsX4_told_r5 ++ wsX4_told_r6))))) ++ wsX40 ++ wsX00 ++ wsX20 ++ wsX30)
def wsX5_within : List Cond := .code yX5_within cX5_within 3 (some .boolean) :: ([])
def wsX5_isValue : List Cond := .code yX5_isValue cX5_isValue 1 (some .boolean) :: ([.methodLink RX5 80 yX5_within, .static yX5_within, .initialized RX5, .code yX5_within cX5_within 3 (some .boolean)])
def wsX5_isShare : List Cond := .code yX5_isShare cX5_isShare 2 (some .boolean) :: ([.methodLink RX5 80 yX5_within, .static yX5_within, .initialized RX5, .code yX5_within cX5_within 3 (some .boolean)])
theorem dX0_hasPlace_0 : decode cX0_hasPlace 0 = .ok (.iload_n 1, 1) := by decide +kernel
theorem dX0_hasPlace_1 : decode cX0_hasPlace 1 = .ok (.ifCond .lt 15, 3) := by decide +kernel
theorem dX0_hasPlace_4 : decode cX0_hasPlace 4 = .ok (.iload_n 1, 1) := by decide +kernel
theorem dX0_hasPlace_5 : decode cX0_hasPlace 5 = .ok (.aload_n 0, 1) := by decide +kernel
theorem dX0_hasPlace_6 : decode cX0_hasPlace 6 = .ok (.getfield 15, 3) := by decide +kernel
theorem dX0_hasPlace_9 : decode cX0_hasPlace 9 = .ok (.if_icmp .ge 7, 3) := by decide +kernel
theorem dX0_hasPlace_12 : decode cX0_hasPlace 12 = .ok (.iconst 1, 1) := by decide +kernel
theorem dX0_hasPlace_13 : decode cX0_hasPlace 13 = .ok (.goto 4, 3) := by decide +kernel
theorem dX0_hasPlace_16 : decode cX0_hasPlace 16 = .ok (.iconst 0, 1) := by decide +kernel
theorem dX0_hasPlace_17 : decode cX0_hasPlace 17 = .ok (.ireturn, 1) := by decide +kernel
theorem dX0_hasRange_0 : decode cX0_hasRange 0 = .ok (.iload_n 1, 1) := by decide +kernel
theorem dX0_hasRange_1 : decode cX0_hasRange 1 = .ok (.ifCond .lt 20, 3) := by decide +kernel
theorem dX0_hasRange_4 : decode cX0_hasRange 4 = .ok (.iload_n 1, 1) := by decide +kernel
theorem dX0_hasRange_5 : decode cX0_hasRange 5 = .ok (.iload_n 2, 1) := by decide +kernel
theorem dX0_hasRange_6 : decode cX0_hasRange 6 = .ok (.if_icmp .ge 15, 3) := by decide +kernel
theorem dX0_hasRange_9 : decode cX0_hasRange 9 = .ok (.iload_n 2, 1) := by decide +kernel
theorem dX0_hasRange_10 : decode cX0_hasRange 10 = .ok (.aload_n 0, 1) := by decide +kernel
theorem dX0_hasRange_11 : decode cX0_hasRange 11 = .ok (.getfield 15, 3) := by decide +kernel
theorem dX0_hasRange_14 : decode cX0_hasRange 14 = .ok (.if_icmp .gt 7, 3) := by decide +kernel
theorem dX0_hasRange_17 : decode cX0_hasRange 17 = .ok (.iconst 1, 1) := by decide +kernel
theorem dX0_hasRange_18 : decode cX0_hasRange 18 = .ok (.goto 4, 3) := by decide +kernel
theorem dX0_hasRange_21 : decode cX0_hasRange 21 = .ok (.iconst 0, 1) := by decide +kernel
theorem dX0_hasRange_22 : decode cX0_hasRange 22 = .ok (.ireturn, 1) := by decide +kernel
theorem dX0_append_0 : decode cX0_append 0 = .ok (.aload_n 0, 1) := by decide +kernel
theorem dX0_append_1 : decode cX0_append 1 = .ok (.getfield 15, 3) := by decide +kernel
theorem dX0_append_4 : decode cX0_append 4 = .ok (.sipush 160, 3) := by decide +kernel
theorem dX0_append_7 : decode cX0_append 7 = .ok (.if_icmp .ge 23, 3) := by decide +kernel
theorem dX0_append_10 : decode cX0_append 10 = .ok (.aload_n 0, 1) := by decide +kernel
theorem dX0_append_11 : decode cX0_append 11 = .ok (.getfield 9, 3) := by decide +kernel
theorem dX0_append_14 : decode cX0_append 14 = .ok (.aload_n 0, 1) := by decide +kernel
theorem dX0_append_15 : decode cX0_append 15 = .ok (.getfield 15, 3) := by decide +kernel
theorem dX0_append_18 : decode cX0_append 18 = .ok (.iload_n 1, 1) := by decide +kernel
theorem dX0_append_19 : decode cX0_append 19 = .ok (.iastore, 1) := by decide +kernel
theorem dX0_append_20 : decode cX0_append 20 = .ok (.aload_n 0, 1) := by decide +kernel
theorem dX0_append_21 : decode cX0_append 21 = .ok (.dup, 1) := by decide +kernel
theorem dX0_append_22 : decode cX0_append 22 = .ok (.getfield 15, 3) := by decide +kernel
theorem dX0_append_25 : decode cX0_append 25 = .ok (.iconst 1, 1) := by decide +kernel
theorem dX0_append_26 : decode cX0_append 26 = .ok (.iadd, 1) := by decide +kernel
theorem dX0_append_27 : decode cX0_append 27 = .ok (.putfield 15, 3) := by decide +kernel
theorem dX0_append_30 : decode cX0_append 30 = .ok (.return_, 1) := by decide +kernel
theorem dX0_putIn_0 : decode cX0_putIn 0 = .ok (.iload_n 1, 1) := by decide +kernel
theorem dX0_putIn_1 : decode cX0_putIn 1 = .ok (.ifCond .lt 21, 3) := by decide +kernel
theorem dX0_putIn_4 : decode cX0_putIn 4 = .ok (.iload_n 1, 1) := by decide +kernel
theorem dX0_putIn_5 : decode cX0_putIn 5 = .ok (.aload_n 0, 1) := by decide +kernel
theorem dX0_putIn_6 : decode cX0_putIn 6 = .ok (.getfield 15, 3) := by decide +kernel
theorem dX0_putIn_9 : decode cX0_putIn 9 = .ok (.if_icmp .gt 13, 3) := by decide +kernel
theorem dX0_putIn_12 : decode cX0_putIn 12 = .ok (.aload_n 0, 1) := by decide +kernel
theorem dX0_putIn_13 : decode cX0_putIn 13 = .ok (.getfield 15, 3) := by decide +kernel
theorem dX0_putIn_16 : decode cX0_putIn 16 = .ok (.sipush 160, 3) := by decide +kernel
theorem dX0_putIn_19 : decode cX0_putIn 19 = .ok (.if_icmp .lt 4, 3) := by decide +kernel
theorem dX0_putIn_23 : decode cX0_putIn 23 = .ok (.aload_n 0, 1) := by decide +kernel
theorem dX0_putIn_24 : decode cX0_putIn 24 = .ok (.getfield 15, 3) := by decide +kernel
theorem dX0_putIn_27 : decode cX0_putIn 27 = .ok (.istore_n 3, 1) := by decide +kernel
theorem dX0_putIn_28 : decode cX0_putIn 28 = .ok (.iload_n 3, 1) := by decide +kernel
theorem dX0_putIn_29 : decode cX0_putIn 29 = .ok (.iload_n 1, 1) := by decide +kernel
theorem dX0_putIn_30 : decode cX0_putIn 30 = .ok (.if_icmp .le 23, 3) := by decide +kernel
theorem dX0_putIn_53 : decode cX0_putIn 53 = .ok (.aload_n 0, 1) := by decide +kernel
theorem dX0_putIn_54 : decode cX0_putIn 54 = .ok (.getfield 9, 3) := by decide +kernel
theorem dX0_putIn_57 : decode cX0_putIn 57 = .ok (.iload_n 1, 1) := by decide +kernel
theorem dX0_putIn_58 : decode cX0_putIn 58 = .ok (.iload_n 2, 1) := by decide +kernel
theorem dX0_putIn_59 : decode cX0_putIn 59 = .ok (.iastore, 1) := by decide +kernel
theorem dX0_putIn_60 : decode cX0_putIn 60 = .ok (.aload_n 0, 1) := by decide +kernel
theorem dX0_putIn_61 : decode cX0_putIn 61 = .ok (.dup, 1) := by decide +kernel
theorem dX0_putIn_62 : decode cX0_putIn 62 = .ok (.getfield 15, 3) := by decide +kernel
theorem dX0_putIn_65 : decode cX0_putIn 65 = .ok (.iconst 1, 1) := by decide +kernel
theorem dX0_putIn_66 : decode cX0_putIn 66 = .ok (.iadd, 1) := by decide +kernel
theorem dX0_putIn_67 : decode cX0_putIn 67 = .ok (.putfield 15, 3) := by decide +kernel
theorem dX0_putIn_70 : decode cX0_putIn 70 = .ok (.return_, 1) := by decide +kernel
theorem dX1_learn_0 : decode cX1_learn 0 = .ok (.iconst 0, 1) := by decide +kernel
theorem dX1_learn_1 : decode cX1_learn 1 = .ok (.istore_n 2, 1) := by decide +kernel
theorem dX1_learn_2 : decode cX1_learn 2 = .ok (.iload_n 2, 1) := by decide +kernel
theorem dX1_learn_3 : decode cX1_learn 3 = .ok (.aload_n 1, 1) := by decide +kernel
theorem dX1_learn_4 : decode cX1_learn 4 = .ok (.getfield 18, 3) := by decide +kernel
theorem dX1_learn_7 : decode cX1_learn 7 = .ok (.if_icmp .ge 20, 3) := by decide +kernel
theorem dX1_learn_27 : decode cX1_learn 27 = .ok (.return_, 1) := by decide +kernel
theorem dX2_layRanges_0 : decode cX2_layRanges 0 = .ok (.aload_n 0, 1) := by decide +kernel
theorem dX2_layRanges_1 : decode cX2_layRanges 1 = .ok (.aload_n 0, 1) := by decide +kernel
theorem dX2_layRanges_2 : decode cX2_layRanges 2 = .ok (.getfield 40, 3) := by decide +kernel
theorem dX2_layRanges_5 : decode cX2_layRanges 5 = .ok (.getfield 44, 3) := by decide +kernel
theorem dX2_layRanges_8 : decode cX2_layRanges 8 = .ok (.ifCond .ne 7, 3) := by decide +kernel
theorem dX2_layRanges_11 : decode cX2_layRanges 11 = .ok (.iconst 0, 1) := by decide +kernel
theorem dX2_layRanges_12 : decode cX2_layRanges 12 = .ok (.goto 14, 3) := by decide +kernel
theorem dX2_layRanges_26 : decode cX2_layRanges 26 = .ok (.putfield 50, 3) := by decide +kernel
theorem dX2_layRanges_29 : decode cX2_layRanges 29 = .ok (.aload_n 0, 1) := by decide +kernel
theorem dX2_layRanges_30 : decode cX2_layRanges 30 = .ok (.getfield 18, 3) := by decide +kernel
theorem dX2_layRanges_33 : decode cX2_layRanges 33 = .ok (.iconst 0, 1) := by decide +kernel
theorem dX2_layRanges_34 : decode cX2_layRanges 34 = .ok (.iconst 0, 1) := by decide +kernel
theorem dX2_layRanges_35 : decode cX2_layRanges 35 = .ok (.iastore, 1) := by decide +kernel
theorem dX2_layRanges_36 : decode cX2_layRanges 36 = .ok (.aload_n 0, 1) := by decide +kernel
theorem dX2_layRanges_37 : decode cX2_layRanges 37 = .ok (.getfield 22, 3) := by decide +kernel
theorem dX2_layRanges_40 : decode cX2_layRanges 40 = .ok (.iconst 0, 1) := by decide +kernel
theorem dX2_layRanges_41 : decode cX2_layRanges 41 = .ok (.aload_n 0, 1) := by decide +kernel
theorem dX2_layRanges_42 : decode cX2_layRanges 42 = .ok (.getfield 40, 3) := by decide +kernel
theorem dX2_layRanges_45 : decode cX2_layRanges 45 = .ok (.getfield 44, 3) := by decide +kernel
theorem dX2_layRanges_48 : decode cX2_layRanges 48 = .ok (.iastore, 1) := by decide +kernel
theorem dX2_layRanges_49 : decode cX2_layRanges 49 = .ok (.iconst 0, 1) := by decide +kernel
theorem dX2_layRanges_50 : decode cX2_layRanges 50 = .ok (.istore_n 1, 1) := by decide +kernel
theorem dX2_layRanges_51 : decode cX2_layRanges 51 = .ok (.iload_n 1, 1) := by decide +kernel
theorem dX2_layRanges_52 : decode cX2_layRanges 52 = .ok (.aload_n 0, 1) := by decide +kernel
theorem dX2_layRanges_53 : decode cX2_layRanges 53 = .ok (.getfield 50, 3) := by decide +kernel
theorem dX2_layRanges_56 : decode cX2_layRanges 56 = .ok (.if_icmp .ge 31, 3) := by decide +kernel
theorem dX2_layRanges_87 : decode cX2_layRanges 87 = .ok (.return_, 1) := by decide +kernel
theorem dX2_renew_0 : decode cX2_renew 0 = .ok (.iconst 0, 1) := by decide +kernel
theorem dX2_renew_1 : decode cX2_renew 1 = .ok (.istore_n 3, 1) := by decide +kernel
theorem dX2_renew_2 : decode cX2_renew 2 = .ok (.aload_n 0, 1) := by decide +kernel
theorem dX2_renew_3 : decode cX2_renew 3 = .ok (.getfield 50, 3) := by decide +kernel
theorem dX2_renew_6 : decode cX2_renew 6 = .ok (.iconst 1, 1) := by decide +kernel
theorem dX2_renew_7 : decode cX2_renew 7 = .ok (.isub, 1) := by decide +kernel
theorem dX2_renew_8 : decode cX2_renew 8 = .ok (.istore 4, 2) := by decide +kernel
theorem dX2_renew_10 : decode cX2_renew 10 = .ok (.iload 4, 2) := by decide +kernel
theorem dX2_renew_12 : decode cX2_renew 12 = .ok (.ifCond .lt 55, 3) := by decide +kernel
theorem dX2_renew_67 : decode cX2_renew 67 = .ok (.iload_n 3, 1) := by decide +kernel
theorem dX2_renew_68 : decode cX2_renew 68 = .ok (.ireturn, 1) := by decide +kernel
theorem dX2_nodesWithMajority_0 : decode cX2_nodesWithMajority 0 = .ok (.iconst 0, 1) := by decide +kernel
theorem dX2_nodesWithMajority_1 : decode cX2_nodesWithMajority 1 = .ok (.istore_n 1, 1) := by decide +kernel
theorem dX2_nodesWithMajority_2 : decode cX2_nodesWithMajority 2 = .ok (.iconst 0, 1) := by decide +kernel
theorem dX2_nodesWithMajority_3 : decode cX2_nodesWithMajority 3 = .ok (.istore_n 2, 1) := by decide +kernel
theorem dX2_nodesWithMajority_4 : decode cX2_nodesWithMajority 4 = .ok (.iload_n 2, 1) := by decide +kernel
theorem dX2_nodesWithMajority_5 : decode cX2_nodesWithMajority 5 = .ok (.aload_n 0, 1) := by decide +kernel
theorem dX2_nodesWithMajority_6 : decode cX2_nodesWithMajority 6 = .ok (.getfield 50, 3) := by decide +kernel
theorem dX2_nodesWithMajority_9 : decode cX2_nodesWithMajority 9 = .ok (.if_icmp .ge 36, 3) := by decide +kernel
theorem dX2_nodesWithMajority_45 : decode cX2_nodesWithMajority 45 = .ok (.iload_n 1, 1) := by decide +kernel
theorem dX2_nodesWithMajority_46 : decode cX2_nodesWithMajority 46 = .ok (.ireturn, 1) := by decide +kernel
theorem dX2_deepest_0 : decode cX2_deepest 0 = .ok (.aload_n 0, 1) := by decide +kernel
theorem dX2_deepest_1 : decode cX2_deepest 1 = .ok (.getfield 50, 3) := by decide +kernel
theorem dX2_deepest_4 : decode cX2_deepest 4 = .ok (.ifCond .ne 7, 3) := by decide +kernel
theorem dX2_deepest_7 : decode cX2_deepest 7 = .ok (.iconst 0, 1) := by decide +kernel
theorem dX2_deepest_8 : decode cX2_deepest 8 = .ok (.goto 4, 3) := by decide +kernel
theorem dX2_deepest_12 : decode cX2_deepest 12 = .ok (.istore_n 1, 1) := by decide +kernel
theorem dX2_deepest_13 : decode cX2_deepest 13 = .ok (.aload_n 0, 1) := by decide +kernel
theorem dX2_deepest_14 : decode cX2_deepest 14 = .ok (.getfield 40, 3) := by decide +kernel
theorem dX2_deepest_17 : decode cX2_deepest 17 = .ok (.getfield 44, 3) := by decide +kernel
theorem dX2_deepest_20 : decode cX2_deepest 20 = .ok (.istore_n 2, 1) := by decide +kernel
theorem dX2_deepest_21 : decode cX2_deepest 21 = .ok (.iload_n 2, 1) := by decide +kernel
theorem dX2_deepest_22 : decode cX2_deepest 22 = .ok (.iconst 1, 1) := by decide +kernel
theorem dX2_deepest_23 : decode cX2_deepest 23 = .ok (.if_icmp .le 15, 3) := by decide +kernel
theorem dX2_deepest_38 : decode cX2_deepest 38 = .ok (.iload_n 1, 1) := by decide +kernel
theorem dX2_deepest_39 : decode cX2_deepest 39 = .ok (.ireturn, 1) := by decide +kernel
theorem dX2_allLosses_0 : decode cX2_allLosses 0 = .ok (.iconst 0, 1) := by decide +kernel
theorem dX2_allLosses_1 : decode cX2_allLosses 1 = .ok (.istore_n 1, 1) := by decide +kernel
theorem dX2_allLosses_2 : decode cX2_allLosses 2 = .ok (.iconst 0, 1) := by decide +kernel
theorem dX2_allLosses_3 : decode cX2_allLosses 3 = .ok (.istore_n 2, 1) := by decide +kernel
theorem dX2_allLosses_4 : decode cX2_allLosses 4 = .ok (.iload_n 2, 1) := by decide +kernel
theorem dX2_allLosses_5 : decode cX2_allLosses 5 = .ok (.aload_n 0, 1) := by decide +kernel
theorem dX2_allLosses_6 : decode cX2_allLosses 6 = .ok (.getfield 50, 3) := by decide +kernel
theorem dX2_allLosses_9 : decode cX2_allLosses 9 = .ok (.if_icmp .ge 18, 3) := by decide +kernel
theorem dX2_allLosses_27 : decode cX2_allLosses 27 = .ok (.iload_n 1, 1) := by decide +kernel
theorem dX2_allLosses_28 : decode cX2_allLosses 28 = .ok (.ireturn, 1) := by decide +kernel
set_option maxRecDepth 20000 in
theorem ggX4_feed_X0_append : GoodIn wsX4_feed wsX0_append := goodIn_r _ [8, 9, 10, 20, 21] (by decide +kernel) (by decide +kernel)
set_option maxRecDepth 20000 in
theorem gX4_feed_X0_append : GoodIn wsX4_feed (wsV RX4 60 RX0 yX0_append wsX0_append) := goodIn_app (goodIn_of _ (by decide +kernel)) ggX4_feed_X0_append
theorem dX4_feed_0 : decode cX4_feed 0 = .ok (.aload_n 0, 1) := by decide +kernel
theorem dX4_feed_1 : decode cX4_feed 1 = .ok (.getfield 12, 3) := by decide +kernel
theorem dX4_feed_4 : decode cX4_feed 4 = .ok (.getfield 57, 3) := by decide +kernel
theorem dX4_feed_7 : decode cX4_feed 7 = .ok (.iconst 4, 1) := by decide +kernel
theorem dX4_feed_8 : decode cX4_feed 8 = .ok (.iadd, 1) := by decide +kernel
theorem dX4_feed_9 : decode cX4_feed 9 = .ok (.sipush 160, 3) := by decide +kernel
theorem dX4_feed_12 : decode cX4_feed 12 = .ok (.if_icmp .le 5, 3) := by decide +kernel
theorem dX4_feed_17 : decode cX4_feed 17 = .ok (.aload_n 0, 1) := by decide +kernel
theorem dX4_feed_18 : decode cX4_feed 18 = .ok (.getfield 12, 3) := by decide +kernel
theorem dX4_feed_21 : decode cX4_feed 21 = .ok (.iload_n 1, 1) := by decide +kernel
theorem dX4_feed_22 : decode cX4_feed 22 = .ok (.bipush 16, 2) := by decide +kernel
theorem dX4_feed_24 : decode cX4_feed 24 = .ok (.ishr, 1) := by decide +kernel
theorem dX4_feed_25 : decode cX4_feed 25 = .ok (.invokevirtual 60, 3) := by decide +kernel
theorem dX4_feed_28 : decode cX4_feed 28 = .ok (.aload_n 0, 1) := by decide +kernel
theorem dX4_feed_29 : decode cX4_feed 29 = .ok (.getfield 12, 3) := by decide +kernel
theorem dX4_feed_32 : decode cX4_feed 32 = .ok (.iload_n 1, 1) := by decide +kernel
theorem dX4_feed_33 : decode cX4_feed 33 = .ok (.i2s, 1) := by decide +kernel
theorem dX4_feed_34 : decode cX4_feed 34 = .ok (.invokevirtual 60, 3) := by decide +kernel
theorem dX4_feed_37 : decode cX4_feed 37 = .ok (.aload_n 0, 1) := by decide +kernel
theorem dX4_feed_38 : decode cX4_feed 38 = .ok (.getfield 12, 3) := by decide +kernel
theorem dX4_feed_41 : decode cX4_feed 41 = .ok (.iload_n 2, 1) := by decide +kernel
theorem dX4_feed_42 : decode cX4_feed 42 = .ok (.bipush 16, 2) := by decide +kernel
theorem dX4_feed_44 : decode cX4_feed 44 = .ok (.ishr, 1) := by decide +kernel
theorem dX4_feed_45 : decode cX4_feed 45 = .ok (.invokevirtual 60, 3) := by decide +kernel
theorem dX4_feed_48 : decode cX4_feed 48 = .ok (.aload_n 0, 1) := by decide +kernel
theorem dX4_feed_49 : decode cX4_feed 49 = .ok (.getfield 12, 3) := by decide +kernel
theorem dX4_feed_52 : decode cX4_feed 52 = .ok (.iload_n 2, 1) := by decide +kernel
theorem dX4_feed_53 : decode cX4_feed 53 = .ok (.i2s, 1) := by decide +kernel
theorem dX4_feed_54 : decode cX4_feed 54 = .ok (.invokevirtual 60, 3) := by decide +kernel
theorem dX4_feed_57 : decode cX4_feed 57 = .ok (.aload_n 0, 1) := by decide +kernel
theorem dX4_feed_58 : decode cX4_feed 58 = .ok (.iconst 1, 1) := by decide +kernel
theorem dX4_feed_59 : decode cX4_feed 59 = .ok (.putfield 53, 3) := by decide +kernel
theorem dX4_feed_62 : decode cX4_feed 62 = .ok (.aload_n 0, 1) := by decide +kernel
theorem dX4_feed_63 : decode cX4_feed 63 = .ok (.getfield 12, 3) := by decide +kernel
theorem dX4_feed_66 : decode cX4_feed 66 = .ok (.getfield 57, 3) := by decide +kernel
theorem dX4_feed_69 : decode cX4_feed 69 = .ok (.ireturn, 1) := by decide +kernel
theorem dX4_end_0 : decode cX4_end 0 = .ok (.iload_n 1, 1) := by decide +kernel
theorem dX4_end_1 : decode cX4_end 1 = .ok (.ifCond .lt 14, 3) := by decide +kernel
theorem dX4_end_4 : decode cX4_end 4 = .ok (.iload_n 1, 1) := by decide +kernel
theorem dX4_end_5 : decode cX4_end 5 = .ok (.aload_n 0, 1) := by decide +kernel
theorem dX4_end_6 : decode cX4_end 6 = .ok (.getfield 12, 3) := by decide +kernel
theorem dX4_end_9 : decode cX4_end 9 = .ok (.getfield 57, 3) := by decide +kernel
theorem dX4_end_12 : decode cX4_end 12 = .ok (.if_icmp .le 5, 3) := by decide +kernel
theorem dX4_end_15 : decode cX4_end 15 = .ok (.iconst (-1), 1) := by decide +kernel
theorem dX4_end_16 : decode cX4_end 16 = .ok (.ireturn, 1) := by decide +kernel
theorem dX4_end_17 : decode cX4_end 17 = .ok (.aload_n 0, 1) := by decide +kernel
theorem dX4_end_18 : decode cX4_end 18 = .ok (.getfield 12, 3) := by decide +kernel
theorem dX4_end_21 : decode cX4_end 21 = .ok (.iload_n 1, 1) := by decide +kernel
theorem dX4_end_22 : decode cX4_end 22 = .ok (.putfield 57, 3) := by decide +kernel
theorem dX4_end_25 : decode cX4_end 25 = .ok (.aload_n 0, 1) := by decide +kernel
theorem dX4_end_26 : decode cX4_end 26 = .ok (.iconst 1, 1) := by decide +kernel
theorem dX4_end_27 : decode cX4_end 27 = .ok (.putfield 53, 3) := by decide +kernel
theorem dX4_end_30 : decode cX4_end 30 = .ok (.iload_n 1, 1) := by decide +kernel
theorem dX4_end_31 : decode cX4_end 31 = .ok (.ireturn, 1) := by decide +kernel
theorem dX4_slots_0 : decode cX4_slots 0 = .ok (.iload_n 1, 1) := by decide +kernel
theorem dX4_slots_1 : decode cX4_slots 1 = .ok (.iconst 1, 1) := by decide +kernel
theorem dX4_slots_2 : decode cX4_slots 2 = .ok (.if_icmp .lt 9, 3) := by decide +kernel
theorem dX4_slots_5 : decode cX4_slots 5 = .ok (.iload_n 1, 1) := by decide +kernel
theorem dX4_slots_6 : decode cX4_slots 6 = .ok (.bipush 6, 2) := by decide +kernel
theorem dX4_slots_8 : decode cX4_slots 8 = .ok (.if_icmp .le 5, 3) := by decide +kernel
theorem dX4_slots_11 : decode cX4_slots 11 = .ok (.iconst (-1), 1) := by decide +kernel
theorem dX4_slots_12 : decode cX4_slots 12 = .ok (.ireturn, 1) := by decide +kernel
theorem dX4_slots_13 : decode cX4_slots 13 = .ok (.aload_n 0, 1) := by decide +kernel
theorem dX4_slots_14 : decode cX4_slots 14 = .ok (.getfield 49, 3) := by decide +kernel
theorem dX4_slots_17 : decode cX4_slots 17 = .ok (.istore_n 2, 1) := by decide +kernel
theorem dX4_slots_18 : decode cX4_slots 18 = .ok (.aload_n 0, 1) := by decide +kernel
theorem dX4_slots_19 : decode cX4_slots 19 = .ok (.iload_n 1, 1) := by decide +kernel
theorem dX4_slots_20 : decode cX4_slots 20 = .ok (.putfield 49, 3) := by decide +kernel
theorem dX4_slots_23 : decode cX4_slots 23 = .ok (.aload_n 0, 1) := by decide +kernel
theorem dX4_slots_24 : decode cX4_slots 24 = .ok (.iconst 1, 1) := by decide +kernel
theorem dX4_slots_25 : decode cX4_slots 25 = .ok (.putfield 53, 3) := by decide +kernel
theorem dX4_slots_28 : decode cX4_slots 28 = .ok (.iload_n 2, 1) := by decide +kernel
theorem dX4_slots_29 : decode cX4_slots 29 = .ok (.ireturn, 1) := by decide +kernel
set_option maxRecDepth 20000 in
theorem ggX4_set_X0_hasPlace : GoodIn wsX4_set wsX0_hasPlace := goodIn_r _ [6, 7, 120, 121] (by decide +kernel) (by decide +kernel)
set_option maxRecDepth 20000 in
theorem gX4_set_X0_hasPlace : GoodIn wsX4_set (wsV RX4 64 RX0 yX0_hasPlace wsX0_hasPlace) := goodIn_app (goodIn_of _ (by decide +kernel)) ggX4_set_X0_hasPlace
theorem dX4_set_0 : decode cX4_set 0 = .ok (.aload_n 0, 1) := by decide +kernel
theorem dX4_set_1 : decode cX4_set 1 = .ok (.getfield 12, 3) := by decide +kernel
theorem dX4_set_4 : decode cX4_set 4 = .ok (.iload_n 1, 1) := by decide +kernel
theorem dX4_set_5 : decode cX4_set 5 = .ok (.invokevirtual 64, 3) := by decide +kernel
theorem dX4_set_8 : decode cX4_set 8 = .ok (.ifCond .eq 10, 3) := by decide +kernel
theorem dX4_set_18 : decode cX4_set 18 = .ok (.iconst (-1), 1) := by decide +kernel
theorem dX4_set_19 : decode cX4_set 19 = .ok (.ireturn, 1) := by decide +kernel
set_option maxRecDepth 20000 in
theorem ggX4_fill_X0_hasRange : GoodIn wsX4_fill wsX0_hasRange := goodIn_r _ [6, 7, 120, 121] (by decide +kernel) (by decide +kernel)
set_option maxRecDepth 20000 in
theorem gX4_fill_X0_hasRange : GoodIn wsX4_fill (wsV RX4 79 RX0 yX0_hasRange wsX0_hasRange) := goodIn_app (goodIn_of _ (by decide +kernel)) ggX4_fill_X0_hasRange
theorem dX4_fill_0 : decode cX4_fill 0 = .ok (.aload_n 0, 1) := by decide +kernel
theorem dX4_fill_1 : decode cX4_fill 1 = .ok (.getfield 12, 3) := by decide +kernel
theorem dX4_fill_4 : decode cX4_fill 4 = .ok (.iload_n 1, 1) := by decide +kernel
theorem dX4_fill_5 : decode cX4_fill 5 = .ok (.iload_n 2, 1) := by decide +kernel
theorem dX4_fill_6 : decode cX4_fill 6 = .ok (.invokevirtual 79, 3) := by decide +kernel
theorem dX4_fill_9 : decode cX4_fill 9 = .ok (.ifCond .eq 10, 3) := by decide +kernel
theorem dX4_fill_19 : decode cX4_fill 19 = .ok (.iconst (-1), 1) := by decide +kernel
theorem dX4_fill_20 : decode cX4_fill 20 = .ok (.ireturn, 1) := by decide +kernel
set_option maxRecDepth 20000 in
theorem ggX4_turn_X0_hasRange : GoodIn wsX4_turn wsX0_hasRange := goodIn_r _ [6, 7, 117, 118] (by decide +kernel) (by decide +kernel)
set_option maxRecDepth 20000 in
theorem gX4_turn_X0_hasRange : GoodIn wsX4_turn (wsV RX4 79 RX0 yX0_hasRange wsX0_hasRange) := goodIn_app (goodIn_of _ (by decide +kernel)) ggX4_turn_X0_hasRange
theorem dX4_turn_0 : decode cX4_turn 0 = .ok (.aload_n 0, 1) := by decide +kernel
theorem dX4_turn_1 : decode cX4_turn 1 = .ok (.getfield 12, 3) := by decide +kernel
theorem dX4_turn_4 : decode cX4_turn 4 = .ok (.iload_n 1, 1) := by decide +kernel
theorem dX4_turn_5 : decode cX4_turn 5 = .ok (.iload_n 2, 1) := by decide +kernel
theorem dX4_turn_6 : decode cX4_turn 6 = .ok (.invokevirtual 79, 3) := by decide +kernel
theorem dX4_turn_9 : decode cX4_turn 9 = .ok (.ifCond .ne 5, 3) := by decide +kernel
theorem dX4_turn_12 : decode cX4_turn 12 = .ok (.iconst (-1), 1) := by decide +kernel
theorem dX4_turn_13 : decode cX4_turn 13 = .ok (.ireturn, 1) := by decide +kernel
set_option maxRecDepth 20000 in
theorem ggX4_swap_X0_hasPlace : GoodIn wsX4_swap wsX0_hasPlace := goodIn_r _ [13, 14, 121, 122] (by decide +kernel) (by decide +kernel)
set_option maxRecDepth 20000 in
theorem gX4_swap_X0_hasPlace : GoodIn wsX4_swap (wsV RX4 64 RX0 yX0_hasPlace wsX0_hasPlace) := goodIn_app (goodIn_of _ (by decide +kernel)) ggX4_swap_X0_hasPlace
theorem dX4_swap_0 : decode cX4_swap 0 = .ok (.aload_n 0, 1) := by decide +kernel
theorem dX4_swap_1 : decode cX4_swap 1 = .ok (.getfield 12, 3) := by decide +kernel
theorem dX4_swap_4 : decode cX4_swap 4 = .ok (.iload_n 1, 1) := by decide +kernel
theorem dX4_swap_5 : decode cX4_swap 5 = .ok (.invokevirtual 64, 3) := by decide +kernel
theorem dX4_swap_8 : decode cX4_swap 8 = .ok (.ifCond .eq 14, 3) := by decide +kernel
theorem dX4_swap_22 : decode cX4_swap 22 = .ok (.iconst (-1), 1) := by decide +kernel
theorem dX4_swap_23 : decode cX4_swap 23 = .ok (.ireturn, 1) := by decide +kernel
set_option maxRecDepth 20000 in
theorem ggX4_insert_X4_isValue : GoodIn wsX4_insert wsX4_isValue := goodIn_r _ [7] (by decide +kernel) (by decide +kernel)
set_option maxRecDepth 20000 in
theorem gX4_insert_X4_isValue : GoodIn wsX4_insert (va_wsS RX4 68 yX4_isValue wsX4_isValue) := goodIn_app (goodIn_of _ (by decide +kernel)) ggX4_insert_X4_isValue
set_option maxRecDepth 20000 in
theorem ggX4_insert_X0_putIn : GoodIn wsX4_insert wsX0_putIn := goodIn_r _ [12, 13, 14, 24, 25] (by decide +kernel) (by decide +kernel)
set_option maxRecDepth 20000 in
theorem gX4_insert_X0_putIn : GoodIn wsX4_insert (wsV RX4 99 RX0 yX0_putIn wsX0_putIn) := goodIn_app (goodIn_of _ (by decide +kernel)) ggX4_insert_X0_putIn
theorem dX4_insert_0 : decode cX4_insert 0 = .ok (.iload_n 1, 1) := by decide +kernel
theorem dX4_insert_1 : decode cX4_insert 1 = .ok (.ifCond .lt 34, 3) := by decide +kernel
theorem dX4_insert_4 : decode cX4_insert 4 = .ok (.iload_n 1, 1) := by decide +kernel
theorem dX4_insert_5 : decode cX4_insert 5 = .ok (.aload_n 0, 1) := by decide +kernel
theorem dX4_insert_6 : decode cX4_insert 6 = .ok (.getfield 12, 3) := by decide +kernel
theorem dX4_insert_9 : decode cX4_insert 9 = .ok (.getfield 57, 3) := by decide +kernel
theorem dX4_insert_12 : decode cX4_insert 12 = .ok (.if_icmp .gt 23, 3) := by decide +kernel
theorem dX4_insert_15 : decode cX4_insert 15 = .ok (.iload_n 2, 1) := by decide +kernel
theorem dX4_insert_16 : decode cX4_insert 16 = .ok (.invokestatic 68, 3) := by decide +kernel
theorem dX4_insert_19 : decode cX4_insert 19 = .ok (.ifCond .eq 16, 3) := by decide +kernel
theorem dX4_insert_22 : decode cX4_insert 22 = .ok (.aload_n 0, 1) := by decide +kernel
theorem dX4_insert_23 : decode cX4_insert 23 = .ok (.getfield 12, 3) := by decide +kernel
theorem dX4_insert_26 : decode cX4_insert 26 = .ok (.getfield 57, 3) := by decide +kernel
theorem dX4_insert_29 : decode cX4_insert 29 = .ok (.sipush 160, 3) := by decide +kernel
theorem dX4_insert_32 : decode cX4_insert 32 = .ok (.if_icmp .lt 5, 3) := by decide +kernel
theorem dX4_insert_35 : decode cX4_insert 35 = .ok (.iconst (-1), 1) := by decide +kernel
theorem dX4_insert_36 : decode cX4_insert 36 = .ok (.ireturn, 1) := by decide +kernel
theorem dX4_insert_37 : decode cX4_insert 37 = .ok (.aload_n 0, 1) := by decide +kernel
theorem dX4_insert_38 : decode cX4_insert 38 = .ok (.getfield 12, 3) := by decide +kernel
theorem dX4_insert_41 : decode cX4_insert 41 = .ok (.iload_n 1, 1) := by decide +kernel
theorem dX4_insert_42 : decode cX4_insert 42 = .ok (.iload_n 2, 1) := by decide +kernel
theorem dX4_insert_43 : decode cX4_insert 43 = .ok (.invokevirtual 99, 3) := by decide +kernel
theorem dX4_insert_46 : decode cX4_insert 46 = .ok (.aload_n 0, 1) := by decide +kernel
theorem dX4_insert_47 : decode cX4_insert 47 = .ok (.iconst 1, 1) := by decide +kernel
theorem dX4_insert_48 : decode cX4_insert 48 = .ok (.putfield 53, 3) := by decide +kernel
theorem dX4_insert_51 : decode cX4_insert 51 = .ok (.aload_n 0, 1) := by decide +kernel
theorem dX4_insert_52 : decode cX4_insert 52 = .ok (.getfield 12, 3) := by decide +kernel
theorem dX4_insert_55 : decode cX4_insert 55 = .ok (.getfield 57, 3) := by decide +kernel
theorem dX4_insert_58 : decode cX4_insert 58 = .ok (.ireturn, 1) := by decide +kernel
set_option maxRecDepth 20000 in
theorem ggX4_remove_X0_hasPlace : GoodIn wsX4_remove wsX0_hasPlace := goodIn_r _ [8, 9, 26, 27] (by decide +kernel) (by decide +kernel)
set_option maxRecDepth 20000 in
theorem gX4_remove_X0_hasPlace : GoodIn wsX4_remove (wsV RX4 64 RX0 yX0_hasPlace wsX0_hasPlace) := goodIn_app (goodIn_of _ (by decide +kernel)) ggX4_remove_X0_hasPlace
theorem dX4_remove_0 : decode cX4_remove 0 = .ok (.aload_n 0, 1) := by decide +kernel
theorem dX4_remove_1 : decode cX4_remove 1 = .ok (.getfield 12, 3) := by decide +kernel
theorem dX4_remove_4 : decode cX4_remove 4 = .ok (.iload_n 1, 1) := by decide +kernel
theorem dX4_remove_5 : decode cX4_remove 5 = .ok (.invokevirtual 64, 3) := by decide +kernel
theorem dX4_remove_8 : decode cX4_remove 8 = .ok (.ifCond .ne 6, 3) := by decide +kernel
theorem dX4_remove_11 : decode cX4_remove 11 = .ok (.ldc 102, 2) := by decide +kernel
theorem dX4_remove_13 : decode cX4_remove 13 = .ok (.ireturn, 1) := by decide +kernel
set_option maxRecDepth 20000 in
theorem ggX4_count_X4_isValue : GoodIn wsX4_count wsX4_isValue := goodIn_r _ [5] (by decide +kernel) (by decide +kernel)
set_option maxRecDepth 20000 in
theorem gX4_count_X4_isValue : GoodIn wsX4_count (va_wsS RX4 68 yX4_isValue wsX4_isValue) := goodIn_app (goodIn_of _ (by decide +kernel)) ggX4_count_X4_isValue
set_option maxRecDepth 20000 in
theorem ggX4_count_X0_hasRange : GoodIn wsX4_count wsX0_hasRange := goodIn_r _ [10, 11, 26, 27] (by decide +kernel) (by decide +kernel)
set_option maxRecDepth 20000 in
theorem gX4_count_X0_hasRange : GoodIn wsX4_count (wsV RX4 79 RX0 yX0_hasRange wsX0_hasRange) := goodIn_app (goodIn_of _ (by decide +kernel)) ggX4_count_X0_hasRange
theorem dX4_count_0 : decode cX4_count 0 = .ok (.iload_n 1, 1) := by decide +kernel
theorem dX4_count_1 : decode cX4_count 1 = .ok (.invokestatic 68, 3) := by decide +kernel
theorem dX4_count_4 : decode cX4_count 4 = .ok (.ifCond .eq 15, 3) := by decide +kernel
theorem dX4_count_7 : decode cX4_count 7 = .ok (.aload_n 0, 1) := by decide +kernel
theorem dX4_count_8 : decode cX4_count 8 = .ok (.getfield 12, 3) := by decide +kernel
theorem dX4_count_11 : decode cX4_count 11 = .ok (.iload_n 2, 1) := by decide +kernel
theorem dX4_count_12 : decode cX4_count 12 = .ok (.iload_n 3, 1) := by decide +kernel
theorem dX4_count_13 : decode cX4_count 13 = .ok (.invokevirtual 79, 3) := by decide +kernel
theorem dX4_count_16 : decode cX4_count 16 = .ok (.ifCond .ne 5, 3) := by decide +kernel
theorem dX4_count_19 : decode cX4_count 19 = .ok (.iconst (-1), 1) := by decide +kernel
theorem dX4_count_20 : decode cX4_count 20 = .ok (.ireturn, 1) := by decide +kernel
theorem dX4_place_0 : decode cX4_place 0 = .ok (.iload_n 2, 1) := by decide +kernel
theorem dX4_place_1 : decode cX4_place 1 = .ok (.ifCond .ge 5, 3) := by decide +kernel
theorem dX4_place_4 : decode cX4_place 4 = .ok (.iconst (-1), 1) := by decide +kernel
theorem dX4_place_5 : decode cX4_place 5 = .ok (.ireturn, 1) := by decide +kernel
theorem dX4_place_6 : decode cX4_place 6 = .ok (.iconst 0, 1) := by decide +kernel
theorem dX4_place_7 : decode cX4_place 7 = .ok (.istore_n 3, 1) := by decide +kernel
theorem dX4_place_8 : decode cX4_place 8 = .ok (.iconst 0, 1) := by decide +kernel
theorem dX4_place_9 : decode cX4_place 9 = .ok (.istore 4, 2) := by decide +kernel
theorem dX4_place_11 : decode cX4_place 11 = .ok (.iload 4, 2) := by decide +kernel
theorem dX4_place_13 : decode cX4_place 13 = .ok (.aload_n 0, 1) := by decide +kernel
theorem dX4_place_14 : decode cX4_place 14 = .ok (.getfield 12, 3) := by decide +kernel
theorem dX4_place_17 : decode cX4_place 17 = .ok (.getfield 57, 3) := by decide +kernel
theorem dX4_place_20 : decode cX4_place 20 = .ok (.if_icmp .ge 34, 3) := by decide +kernel
theorem dX4_place_54 : decode cX4_place 54 = .ok (.iconst (-1), 1) := by decide +kernel
theorem dX4_place_55 : decode cX4_place 55 = .ok (.ireturn, 1) := by decide +kernel
set_option maxRecDepth 20000 in
theorem ggX4_values_X1_learn : GoodIn wsX4_values wsX1_learn := goodIn_r _ [9, 10, 11, 12, 13, 14, 15, 16, 17, 27, 28, 29, 30, 31, 32] (by decide +kernel) (by decide +kernel)
set_option maxRecDepth 20000 in
theorem gX4_values_X1_learn : GoodIn wsX4_values (wsV RX4 117 RX1 yX1_learn wsX1_learn) := goodIn_app (goodIn_of _ (by decide +kernel)) ggX4_values_X1_learn
theorem dX4_values_0 : decode cX4_values 0 = .ok (.aload_n 0, 1) := by decide +kernel
theorem dX4_values_1 : decode cX4_values 1 = .ok (.getfield 28, 3) := by decide +kernel
theorem dX4_values_4 : decode cX4_values 4 = .ok (.aload_n 0, 1) := by decide +kernel
theorem dX4_values_5 : decode cX4_values 5 = .ok (.getfield 12, 3) := by decide +kernel
theorem dX4_values_8 : decode cX4_values 8 = .ok (.invokevirtual 117, 3) := by decide +kernel
theorem dX4_values_11 : decode cX4_values 11 = .ok (.iconst 0, 1) := by decide +kernel
theorem dX4_values_12 : decode cX4_values 12 = .ok (.istore_n 1, 1) := by decide +kernel
theorem dX4_values_13 : decode cX4_values 13 = .ok (.iconst 0, 1) := by decide +kernel
theorem dX4_values_14 : decode cX4_values 14 = .ok (.istore_n 2, 1) := by decide +kernel
theorem dX4_values_15 : decode cX4_values 15 = .ok (.iload_n 2, 1) := by decide +kernel
theorem dX4_values_16 : decode cX4_values 16 = .ok (.aload_n 0, 1) := by decide +kernel
theorem dX4_values_17 : decode cX4_values 17 = .ok (.getfield 12, 3) := by decide +kernel
theorem dX4_values_20 : decode cX4_values 20 = .ok (.getfield 57, 3) := by decide +kernel
theorem dX4_values_23 : decode cX4_values 23 = .ok (.if_icmp .ge 25, 3) := by decide +kernel
theorem dX4_values_48 : decode cX4_values 48 = .ok (.iload_n 1, 1) := by decide +kernel
theorem dX4_values_49 : decode cX4_values 49 = .ok (.ireturn, 1) := by decide +kernel
set_option maxRecDepth 20000 in
theorem ggX4_node_X0_hasRange : GoodIn wsX4_node wsX0_hasRange := goodIn_r _ [7, 8, 128, 129] (by decide +kernel) (by decide +kernel)
set_option maxRecDepth 20000 in
theorem gX4_node_X0_hasRange : GoodIn wsX4_node (wsV RX4 79 RX0 yX0_hasRange wsX0_hasRange) := goodIn_app (goodIn_of _ (by decide +kernel)) ggX4_node_X0_hasRange
theorem dX4_node_0 : decode cX4_node 0 = .ok (.aload_n 0, 1) := by decide +kernel
theorem dX4_node_1 : decode cX4_node 1 = .ok (.getfield 12, 3) := by decide +kernel
theorem dX4_node_4 : decode cX4_node 4 = .ok (.iload_n 1, 1) := by decide +kernel
theorem dX4_node_5 : decode cX4_node 5 = .ok (.iload_n 2, 1) := by decide +kernel
theorem dX4_node_6 : decode cX4_node 6 = .ok (.invokevirtual 79, 3) := by decide +kernel
theorem dX4_node_9 : decode cX4_node 9 = .ok (.ifCond .ne 5, 3) := by decide +kernel
theorem dX4_node_12 : decode cX4_node 12 = .ok (.iconst (-1), 1) := by decide +kernel
theorem dX4_node_13 : decode cX4_node 13 = .ok (.ireturn, 1) := by decide +kernel
set_option maxRecDepth 20000 in
theorem ggX4_loss_X0_hasRange : GoodIn wsX4_loss wsX0_hasRange := goodIn_r _ [7, 8, 128, 129] (by decide +kernel) (by decide +kernel)
set_option maxRecDepth 20000 in
theorem gX4_loss_X0_hasRange : GoodIn wsX4_loss (wsV RX4 79 RX0 yX0_hasRange wsX0_hasRange) := goodIn_app (goodIn_of _ (by decide +kernel)) ggX4_loss_X0_hasRange
theorem dX4_loss_0 : decode cX4_loss 0 = .ok (.aload_n 0, 1) := by decide +kernel
theorem dX4_loss_1 : decode cX4_loss 1 = .ok (.getfield 12, 3) := by decide +kernel
theorem dX4_loss_4 : decode cX4_loss 4 = .ok (.iload_n 1, 1) := by decide +kernel
theorem dX4_loss_5 : decode cX4_loss 5 = .ok (.iload_n 2, 1) := by decide +kernel
theorem dX4_loss_6 : decode cX4_loss 6 = .ok (.invokevirtual 79, 3) := by decide +kernel
theorem dX4_loss_9 : decode cX4_loss 9 = .ok (.ifCond .ne 5, 3) := by decide +kernel
theorem dX4_loss_12 : decode cX4_loss 12 = .ok (.iconst (-1), 1) := by decide +kernel
theorem dX4_loss_13 : decode cX4_loss 13 = .ok (.ireturn, 1) := by decide +kernel
set_option maxRecDepth 20000 in
theorem ggX4_cancelled_X0_hasRange : GoodIn wsX4_cancelled wsX0_hasRange := goodIn_r _ [7, 8, 128, 129] (by decide +kernel) (by decide +kernel)
set_option maxRecDepth 20000 in
theorem gX4_cancelled_X0_hasRange : GoodIn wsX4_cancelled (wsV RX4 79 RX0 yX0_hasRange wsX0_hasRange) := goodIn_app (goodIn_of _ (by decide +kernel)) ggX4_cancelled_X0_hasRange
theorem dX4_cancelled_0 : decode cX4_cancelled 0 = .ok (.aload_n 0, 1) := by decide +kernel
theorem dX4_cancelled_1 : decode cX4_cancelled 1 = .ok (.getfield 12, 3) := by decide +kernel
theorem dX4_cancelled_4 : decode cX4_cancelled 4 = .ok (.iload_n 1, 1) := by decide +kernel
theorem dX4_cancelled_5 : decode cX4_cancelled 5 = .ok (.iload_n 2, 1) := by decide +kernel
theorem dX4_cancelled_6 : decode cX4_cancelled 6 = .ok (.invokevirtual 79, 3) := by decide +kernel
theorem dX4_cancelled_9 : decode cX4_cancelled 9 = .ok (.ifCond .ne 5, 3) := by decide +kernel
theorem dX4_cancelled_12 : decode cX4_cancelled 12 = .ok (.iconst (-1), 1) := by decide +kernel
theorem dX4_cancelled_13 : decode cX4_cancelled 13 = .ok (.ireturn, 1) := by decide +kernel
set_option maxRecDepth 20000 in
theorem ggX4_above_X0_hasPlace : GoodIn wsX4_above wsX0_hasPlace := goodIn_r _ [9, 10, 142, 143] (by decide +kernel) (by decide +kernel)
set_option maxRecDepth 20000 in
theorem gX4_above_X0_hasPlace : GoodIn wsX4_above (wsV RX4 64 RX0 yX0_hasPlace wsX0_hasPlace) := goodIn_app (goodIn_of _ (by decide +kernel)) ggX4_above_X0_hasPlace
theorem dX4_above_0 : decode cX4_above 0 = .ok (.aload_n 0, 1) := by decide +kernel
theorem dX4_above_1 : decode cX4_above 1 = .ok (.getfield 12, 3) := by decide +kernel
theorem dX4_above_4 : decode cX4_above 4 = .ok (.iload_n 1, 1) := by decide +kernel
theorem dX4_above_5 : decode cX4_above 5 = .ok (.invokevirtual 64, 3) := by decide +kernel
theorem dX4_above_8 : decode cX4_above 8 = .ok (.ifCond .ne 5, 3) := by decide +kernel
theorem dX4_above_11 : decode cX4_above 11 = .ok (.iconst (-1), 1) := by decide +kernel
theorem dX4_above_12 : decode cX4_above 12 = .ok (.ireturn, 1) := by decide +kernel
set_option maxRecDepth 20000 in
theorem ggX4_holds_X0_hasPlace : GoodIn wsX4_holds wsX0_hasPlace := goodIn_r _ [6, 7, 124, 125] (by decide +kernel) (by decide +kernel)
set_option maxRecDepth 20000 in
theorem gX4_holds_X0_hasPlace : GoodIn wsX4_holds (wsV RX4 64 RX0 yX0_hasPlace wsX0_hasPlace) := goodIn_app (goodIn_of _ (by decide +kernel)) ggX4_holds_X0_hasPlace
theorem dX4_holds_0 : decode cX4_holds 0 = .ok (.aload_n 0, 1) := by decide +kernel
theorem dX4_holds_1 : decode cX4_holds 1 = .ok (.getfield 12, 3) := by decide +kernel
theorem dX4_holds_4 : decode cX4_holds 4 = .ok (.iload_n 1, 1) := by decide +kernel
theorem dX4_holds_5 : decode cX4_holds 5 = .ok (.invokevirtual 64, 3) := by decide +kernel
theorem dX4_holds_8 : decode cX4_holds 8 = .ok (.ifCond .ne 5, 3) := by decide +kernel
theorem dX4_holds_11 : decode cX4_holds 11 = .ok (.iconst (-1), 1) := by decide +kernel
theorem dX4_holds_12 : decode cX4_holds 12 = .ok (.ireturn, 1) := by decide +kernel
set_option maxRecDepth 20000 in
theorem ggX4_parts_X0_hasRange : GoodIn wsX4_parts wsX0_hasRange := goodIn_r _ [8, 9, 129, 130] (by decide +kernel) (by decide +kernel)
set_option maxRecDepth 20000 in
theorem gX4_parts_X0_hasRange : GoodIn wsX4_parts (wsV RX4 79 RX0 yX0_hasRange wsX0_hasRange) := goodIn_app (goodIn_of _ (by decide +kernel)) ggX4_parts_X0_hasRange
theorem dX4_parts_0 : decode cX4_parts 0 = .ok (.aload_n 0, 1) := by decide +kernel
theorem dX4_parts_1 : decode cX4_parts 1 = .ok (.getfield 12, 3) := by decide +kernel
theorem dX4_parts_4 : decode cX4_parts 4 = .ok (.iload_n 1, 1) := by decide +kernel
theorem dX4_parts_5 : decode cX4_parts 5 = .ok (.iload_n 2, 1) := by decide +kernel
theorem dX4_parts_6 : decode cX4_parts 6 = .ok (.invokevirtual 79, 3) := by decide +kernel
theorem dX4_parts_9 : decode cX4_parts 9 = .ok (.ifCond .ne 5, 3) := by decide +kernel
theorem dX4_parts_12 : decode cX4_parts 12 = .ok (.iconst (-1), 1) := by decide +kernel
theorem dX4_parts_13 : decode cX4_parts 13 = .ok (.ireturn, 1) := by decide +kernel
set_option maxRecDepth 20000 in
theorem ggX4_part_X0_hasRange : GoodIn wsX4_part wsX0_hasRange := goodIn_r _ [9, 10, 130, 131] (by decide +kernel) (by decide +kernel)
set_option maxRecDepth 20000 in
theorem gX4_part_X0_hasRange : GoodIn wsX4_part (wsV RX4 79 RX0 yX0_hasRange wsX0_hasRange) := goodIn_app (goodIn_of _ (by decide +kernel)) ggX4_part_X0_hasRange
theorem dX4_part_0 : decode cX4_part 0 = .ok (.aload_n 0, 1) := by decide +kernel
theorem dX4_part_1 : decode cX4_part 1 = .ok (.getfield 12, 3) := by decide +kernel
theorem dX4_part_4 : decode cX4_part 4 = .ok (.iload_n 1, 1) := by decide +kernel
theorem dX4_part_5 : decode cX4_part 5 = .ok (.iload_n 2, 1) := by decide +kernel
theorem dX4_part_6 : decode cX4_part 6 = .ok (.invokevirtual 79, 3) := by decide +kernel
theorem dX4_part_9 : decode cX4_part 9 = .ok (.ifCond .eq 18, 3) := by decide +kernel
theorem dX4_part_27 : decode cX4_part 27 = .ok (.iconst (-1), 1) := by decide +kernel
theorem dX4_part_28 : decode cX4_part 28 = .ok (.ireturn, 1) := by decide +kernel
set_option maxRecDepth 20000 in
theorem ggX4_summary_X0_hasRange : GoodIn wsX4_summary wsX0_hasRange := goodIn_r _ [9, 10, 132, 133] (by decide +kernel) (by decide +kernel)
set_option maxRecDepth 20000 in
theorem gX4_summary_X0_hasRange : GoodIn wsX4_summary (wsV RX4 79 RX0 yX0_hasRange wsX0_hasRange) := goodIn_app (goodIn_of _ (by decide +kernel)) ggX4_summary_X0_hasRange
theorem dX4_summary_0 : decode cX4_summary 0 = .ok (.aload_n 0, 1) := by decide +kernel
theorem dX4_summary_1 : decode cX4_summary 1 = .ok (.getfield 12, 3) := by decide +kernel
theorem dX4_summary_4 : decode cX4_summary 4 = .ok (.iload_n 1, 1) := by decide +kernel
theorem dX4_summary_5 : decode cX4_summary 5 = .ok (.iload_n 2, 1) := by decide +kernel
theorem dX4_summary_6 : decode cX4_summary 6 = .ok (.invokevirtual 79, 3) := by decide +kernel
theorem dX4_summary_9 : decode cX4_summary 9 = .ok (.ifCond .eq 12, 3) := by decide +kernel
theorem dX4_summary_21 : decode cX4_summary 21 = .ok (.iconst (-1), 1) := by decide +kernel
theorem dX4_summary_22 : decode cX4_summary 22 = .ok (.ireturn, 1) := by decide +kernel
set_option maxRecDepth 20000 in
theorem ggX4_lost_X4_isValue : GoodIn wsX4_lost wsX4_isValue := goodIn_r _ [6] (by decide +kernel) (by decide +kernel)
set_option maxRecDepth 20000 in
theorem gX4_lost_X4_isValue : GoodIn wsX4_lost (va_wsS RX4 68 yX4_isValue wsX4_isValue) := goodIn_app (goodIn_of _ (by decide +kernel)) ggX4_lost_X4_isValue
set_option maxRecDepth 20000 in
theorem ggX4_lost_X0_hasRange : GoodIn wsX4_lost wsX0_hasRange := goodIn_r _ [11, 12, 133, 134] (by decide +kernel) (by decide +kernel)
set_option maxRecDepth 20000 in
theorem gX4_lost_X0_hasRange : GoodIn wsX4_lost (wsV RX4 79 RX0 yX0_hasRange wsX0_hasRange) := goodIn_app (goodIn_of _ (by decide +kernel)) ggX4_lost_X0_hasRange
theorem dX4_lost_0 : decode cX4_lost 0 = .ok (.iload_n 1, 1) := by decide +kernel
theorem dX4_lost_1 : decode cX4_lost 1 = .ok (.invokestatic 68, 3) := by decide +kernel
theorem dX4_lost_4 : decode cX4_lost 4 = .ok (.ifCond .eq 15, 3) := by decide +kernel
theorem dX4_lost_7 : decode cX4_lost 7 = .ok (.aload_n 0, 1) := by decide +kernel
theorem dX4_lost_8 : decode cX4_lost 8 = .ok (.getfield 12, 3) := by decide +kernel
theorem dX4_lost_11 : decode cX4_lost 11 = .ok (.iload_n 2, 1) := by decide +kernel
theorem dX4_lost_12 : decode cX4_lost 12 = .ok (.iload_n 3, 1) := by decide +kernel
theorem dX4_lost_13 : decode cX4_lost 13 = .ok (.invokevirtual 79, 3) := by decide +kernel
theorem dX4_lost_16 : decode cX4_lost 16 = .ok (.ifCond .ne 5, 3) := by decide +kernel
theorem dX4_lost_19 : decode cX4_lost 19 = .ok (.iconst (-1), 1) := by decide +kernel
theorem dX4_lost_20 : decode cX4_lost 20 = .ok (.ireturn, 1) := by decide +kernel
set_option maxRecDepth 20000 in
theorem ggX4_surely_X0_hasRange : GoodIn wsX4_surely wsX0_hasRange := goodIn_r _ [12, 13, 131, 132] (by decide +kernel) (by decide +kernel)
set_option maxRecDepth 20000 in
theorem gX4_surely_X0_hasRange : GoodIn wsX4_surely (wsV RX4 79 RX0 yX0_hasRange wsX0_hasRange) := goodIn_app (goodIn_of _ (by decide +kernel)) ggX4_surely_X0_hasRange
theorem dX4_surely_0 : decode cX4_surely 0 = .ok (.aload_n 0, 1) := by decide +kernel
theorem dX4_surely_1 : decode cX4_surely 1 = .ok (.getfield 12, 3) := by decide +kernel
theorem dX4_surely_4 : decode cX4_surely 4 = .ok (.iload_n 1, 1) := by decide +kernel
theorem dX4_surely_5 : decode cX4_surely 5 = .ok (.iload_n 2, 1) := by decide +kernel
theorem dX4_surely_6 : decode cX4_surely 6 = .ok (.invokevirtual 79, 3) := by decide +kernel
theorem dX4_surely_9 : decode cX4_surely 9 = .ok (.ifCond .ne 6, 3) := by decide +kernel
theorem dX4_surely_12 : decode cX4_surely 12 = .ok (.ldc 102, 2) := by decide +kernel
theorem dX4_surely_14 : decode cX4_surely 14 = .ok (.ireturn, 1) := by decide +kernel
set_option maxRecDepth 20000 in
theorem ggX4_heavy_X0_hasRange : GoodIn wsX4_heavy wsX0_hasRange := goodIn_r _ [8, 9, 151, 152] (by decide +kernel) (by decide +kernel)
set_option maxRecDepth 20000 in
theorem gX4_heavy_X0_hasRange : GoodIn wsX4_heavy (wsV RX4 79 RX0 yX0_hasRange wsX0_hasRange) := goodIn_app (goodIn_of _ (by decide +kernel)) ggX4_heavy_X0_hasRange
theorem dX4_heavy_0 : decode cX4_heavy 0 = .ok (.aload_n 0, 1) := by decide +kernel
theorem dX4_heavy_1 : decode cX4_heavy 1 = .ok (.getfield 12, 3) := by decide +kernel
theorem dX4_heavy_4 : decode cX4_heavy 4 = .ok (.iload_n 1, 1) := by decide +kernel
theorem dX4_heavy_5 : decode cX4_heavy 5 = .ok (.iload_n 2, 1) := by decide +kernel
theorem dX4_heavy_6 : decode cX4_heavy 6 = .ok (.invokevirtual 79, 3) := by decide +kernel
theorem dX4_heavy_9 : decode cX4_heavy 9 = .ok (.ifCond .eq 12, 3) := by decide +kernel
theorem dX4_heavy_21 : decode cX4_heavy 21 = .ok (.iconst (-1), 1) := by decide +kernel
theorem dX4_heavy_22 : decode cX4_heavy 22 = .ok (.ireturn, 1) := by decide +kernel
set_option maxRecDepth 20000 in
theorem ggX4_failed_X0_hasRange : GoodIn wsX4_failed wsX0_hasRange := goodIn_r _ [8, 9, 151, 152] (by decide +kernel) (by decide +kernel)
set_option maxRecDepth 20000 in
theorem gX4_failed_X0_hasRange : GoodIn wsX4_failed (wsV RX4 79 RX0 yX0_hasRange wsX0_hasRange) := goodIn_app (goodIn_of _ (by decide +kernel)) ggX4_failed_X0_hasRange
theorem dX4_failed_0 : decode cX4_failed 0 = .ok (.aload_n 0, 1) := by decide +kernel
theorem dX4_failed_1 : decode cX4_failed 1 = .ok (.getfield 12, 3) := by decide +kernel
theorem dX4_failed_4 : decode cX4_failed 4 = .ok (.iload_n 1, 1) := by decide +kernel
theorem dX4_failed_5 : decode cX4_failed 5 = .ok (.iload_n 2, 1) := by decide +kernel
theorem dX4_failed_6 : decode cX4_failed 6 = .ok (.invokevirtual 79, 3) := by decide +kernel
theorem dX4_failed_9 : decode cX4_failed 9 = .ok (.ifCond .eq 12, 3) := by decide +kernel
theorem dX4_failed_21 : decode cX4_failed 21 = .ok (.iconst (-1), 1) := by decide +kernel
theorem dX4_failed_22 : decode cX4_failed 22 = .ok (.ireturn, 1) := by decide +kernel
set_option maxRecDepth 20000 in
theorem ggX4_least_X0_hasRange : GoodIn wsX4_least wsX0_hasRange := goodIn_r _ [8, 9, 154, 155] (by decide +kernel) (by decide +kernel)
set_option maxRecDepth 20000 in
theorem gX4_least_X0_hasRange : GoodIn wsX4_least (wsV RX4 79 RX0 yX0_hasRange wsX0_hasRange) := goodIn_app (goodIn_of _ (by decide +kernel)) ggX4_least_X0_hasRange
theorem dX4_least_0 : decode cX4_least 0 = .ok (.aload_n 0, 1) := by decide +kernel
theorem dX4_least_1 : decode cX4_least 1 = .ok (.getfield 12, 3) := by decide +kernel
theorem dX4_least_4 : decode cX4_least 4 = .ok (.iload_n 1, 1) := by decide +kernel
theorem dX4_least_5 : decode cX4_least 5 = .ok (.iload_n 2, 1) := by decide +kernel
theorem dX4_least_6 : decode cX4_least 6 = .ok (.invokevirtual 79, 3) := by decide +kernel
theorem dX4_least_9 : decode cX4_least 9 = .ok (.ifCond .eq 20, 3) := by decide +kernel
theorem dX4_least_29 : decode cX4_least 29 = .ok (.iconst (-1), 1) := by decide +kernel
theorem dX4_least_30 : decode cX4_least 30 = .ok (.ireturn, 1) := by decide +kernel
set_option maxRecDepth 20000 in
theorem ggX4_majority_X0_hasRange : GoodIn wsX4_majority wsX0_hasRange := goodIn_r _ [7, 8, 31, 32] (by decide +kernel) (by decide +kernel)
set_option maxRecDepth 20000 in
theorem gX4_majority_X0_hasRange : GoodIn wsX4_majority (wsV RX4 79 RX0 yX0_hasRange wsX0_hasRange) := goodIn_app (goodIn_of _ (by decide +kernel)) ggX4_majority_X0_hasRange
theorem dX4_majority_0 : decode cX4_majority 0 = .ok (.aload_n 0, 1) := by decide +kernel
theorem dX4_majority_1 : decode cX4_majority 1 = .ok (.getfield 12, 3) := by decide +kernel
theorem dX4_majority_4 : decode cX4_majority 4 = .ok (.iload_n 1, 1) := by decide +kernel
theorem dX4_majority_5 : decode cX4_majority 5 = .ok (.iload_n 2, 1) := by decide +kernel
theorem dX4_majority_6 : decode cX4_majority 6 = .ok (.invokevirtual 79, 3) := by decide +kernel
theorem dX4_majority_9 : decode cX4_majority 9 = .ok (.ifCond .eq 15, 3) := by decide +kernel
theorem dX4_majority_24 : decode cX4_majority 24 = .ok (.ldc 102, 2) := by decide +kernel
theorem dX4_majority_26 : decode cX4_majority 26 = .ok (.ireturn, 1) := by decide +kernel
set_option maxRecDepth 20000 in
theorem ggX4_margin_X4_isValue : GoodIn wsX4_margin wsX4_isValue := goodIn_r _ [6] (by decide +kernel) (by decide +kernel)
set_option maxRecDepth 20000 in
theorem gX4_margin_X4_isValue : GoodIn wsX4_margin (va_wsS RX4 68 yX4_isValue wsX4_isValue) := goodIn_app (goodIn_of _ (by decide +kernel)) ggX4_margin_X4_isValue
set_option maxRecDepth 20000 in
theorem ggX4_margin_X0_hasRange : GoodIn wsX4_margin wsX0_hasRange := goodIn_r _ [11, 12, 27, 28] (by decide +kernel) (by decide +kernel)
set_option maxRecDepth 20000 in
theorem gX4_margin_X0_hasRange : GoodIn wsX4_margin (wsV RX4 79 RX0 yX0_hasRange wsX0_hasRange) := goodIn_app (goodIn_of _ (by decide +kernel)) ggX4_margin_X0_hasRange
theorem dX4_margin_0 : decode cX4_margin 0 = .ok (.iload_n 1, 1) := by decide +kernel
theorem dX4_margin_1 : decode cX4_margin 1 = .ok (.invokestatic 68, 3) := by decide +kernel
theorem dX4_margin_4 : decode cX4_margin 4 = .ok (.ifCond .eq 15, 3) := by decide +kernel
theorem dX4_margin_7 : decode cX4_margin 7 = .ok (.aload_n 0, 1) := by decide +kernel
theorem dX4_margin_8 : decode cX4_margin 8 = .ok (.getfield 12, 3) := by decide +kernel
theorem dX4_margin_11 : decode cX4_margin 11 = .ok (.iload_n 2, 1) := by decide +kernel
theorem dX4_margin_12 : decode cX4_margin 12 = .ok (.iload_n 3, 1) := by decide +kernel
theorem dX4_margin_13 : decode cX4_margin 13 = .ok (.invokevirtual 79, 3) := by decide +kernel
theorem dX4_margin_16 : decode cX4_margin 16 = .ok (.ifCond .ne 6, 3) := by decide +kernel
theorem dX4_margin_19 : decode cX4_margin 19 = .ok (.ldc 102, 2) := by decide +kernel
theorem dX4_margin_21 : decode cX4_margin 21 = .ok (.ireturn, 1) := by decide +kernel
set_option maxRecDepth 20000 in
theorem ggX4_both_X4_refusalOfBoth : GoodIn wsX4_both wsX4_refusalOfBoth := goodIn_r _ [7, 8, 9, 10, 11, 12, 13, 14, 15, 16, 6, 17, 18, 19, 20, 21, 22, 152, 153, 154, 155, 156, 157, 158, 159, 160, 166, 167] (by decide +kernel) (by decide +kernel)
set_option maxRecDepth 20000 in
theorem gX4_both_X4_refusalOfBoth : GoodIn wsX4_both (wsV RX4 210 RX4 yX4_refusalOfBoth wsX4_refusalOfBoth) := goodIn_app (goodIn_of _ (by decide +kernel)) ggX4_both_X4_refusalOfBoth
theorem dX4_both_0 : decode cX4_both 0 = .ok (.aload_n 0, 1) := by decide +kernel
theorem dX4_both_1 : decode cX4_both 1 = .ok (.iload_n 1, 1) := by decide +kernel
theorem dX4_both_2 : decode cX4_both 2 = .ok (.iload_n 2, 1) := by decide +kernel
theorem dX4_both_3 : decode cX4_both 3 = .ok (.iload_n 3, 1) := by decide +kernel
theorem dX4_both_4 : decode cX4_both 4 = .ok (.iload 4, 2) := by decide +kernel
theorem dX4_both_6 : decode cX4_both 6 = .ok (.iload 5, 2) := by decide +kernel
theorem dX4_both_8 : decode cX4_both 8 = .ok (.iload 6, 2) := by decide +kernel
theorem dX4_both_10 : decode cX4_both 10 = .ok (.invokevirtual 210, 3) := by decide +kernel
theorem dX4_both_13 : decode cX4_both 13 = .ok (.istore 7, 2) := by decide +kernel
theorem dX4_both_15 : decode cX4_both 15 = .ok (.iload 7, 2) := by decide +kernel
theorem dX4_both_17 : decode cX4_both 17 = .ok (.ifCond .eq 6, 3) := by decide +kernel
theorem dX4_both_20 : decode cX4_both 20 = .ok (.iload 7, 2) := by decide +kernel
theorem dX4_both_22 : decode cX4_both 22 = .ok (.ireturn, 1) := by decide +kernel
set_option maxRecDepth 20000 in
theorem ggX4_bothAt_X4_refusalOfBoth : GoodIn wsX4_bothAt wsX4_refusalOfBoth := goodIn_r _ [9, 10, 11, 12, 13, 14, 15, 16, 17, 18, 8, 19, 20, 21, 22, 23, 24, 153, 154, 155, 156, 157, 158, 159, 160, 161, 167, 168] (by decide +kernel) (by decide +kernel)
set_option maxRecDepth 20000 in
theorem gX4_bothAt_X4_refusalOfBoth : GoodIn wsX4_bothAt (wsV RX4 210 RX4 yX4_refusalOfBoth wsX4_refusalOfBoth) := goodIn_app (goodIn_of _ (by decide +kernel)) ggX4_bothAt_X4_refusalOfBoth
theorem dX4_bothAt_0 : decode cX4_bothAt 0 = .ok (.iload 7, 2) := by decide +kernel
theorem dX4_bothAt_2 : decode cX4_bothAt 2 = .ok (.ifCond .lt 19, 3) := by decide +kernel
theorem dX4_bothAt_5 : decode cX4_bothAt 5 = .ok (.aload_n 0, 1) := by decide +kernel
theorem dX4_bothAt_6 : decode cX4_bothAt 6 = .ok (.iload_n 1, 1) := by decide +kernel
theorem dX4_bothAt_7 : decode cX4_bothAt 7 = .ok (.iload_n 2, 1) := by decide +kernel
theorem dX4_bothAt_8 : decode cX4_bothAt 8 = .ok (.iload_n 3, 1) := by decide +kernel
theorem dX4_bothAt_9 : decode cX4_bothAt 9 = .ok (.iload 4, 2) := by decide +kernel
theorem dX4_bothAt_11 : decode cX4_bothAt 11 = .ok (.iload 5, 2) := by decide +kernel
theorem dX4_bothAt_13 : decode cX4_bothAt 13 = .ok (.iload 6, 2) := by decide +kernel
theorem dX4_bothAt_15 : decode cX4_bothAt 15 = .ok (.invokevirtual 210, 3) := by decide +kernel
theorem dX4_bothAt_18 : decode cX4_bothAt 18 = .ok (.ifCond .eq 6, 3) := by decide +kernel
theorem dX4_bothAt_21 : decode cX4_bothAt 21 = .ok (.ldc 102, 2) := by decide +kernel
theorem dX4_bothAt_23 : decode cX4_bothAt 23 = .ok (.ireturn, 1) := by decide +kernel
set_option maxRecDepth 20000 in
theorem ggX4_longest_X4_isValue : GoodIn wsX4_longest wsX4_isValue := goodIn_r _ [6] (by decide +kernel) (by decide +kernel)
set_option maxRecDepth 20000 in
theorem gX4_longest_X4_isValue : GoodIn wsX4_longest (va_wsS RX4 68 yX4_isValue wsX4_isValue) := goodIn_app (goodIn_of _ (by decide +kernel)) ggX4_longest_X4_isValue
set_option maxRecDepth 20000 in
theorem ggX4_longest_X4_isShare : GoodIn wsX4_longest wsX4_isShare := goodIn_r _ [9] (by decide +kernel) (by decide +kernel)
set_option maxRecDepth 20000 in
theorem gX4_longest_X4_isShare : GoodIn wsX4_longest (va_wsS RX4 186 yX4_isShare wsX4_isShare) := goodIn_app (goodIn_of _ (by decide +kernel)) ggX4_longest_X4_isShare
theorem dX4_longest_0 : decode cX4_longest 0 = .ok (.iload_n 1, 1) := by decide +kernel
theorem dX4_longest_1 : decode cX4_longest 1 = .ok (.invokestatic 68, 3) := by decide +kernel
theorem dX4_longest_4 : decode cX4_longest 4 = .ok (.ifCond .eq 22, 3) := by decide +kernel
theorem dX4_longest_7 : decode cX4_longest 7 = .ok (.iload_n 2, 1) := by decide +kernel
theorem dX4_longest_8 : decode cX4_longest 8 = .ok (.iload_n 3, 1) := by decide +kernel
theorem dX4_longest_9 : decode cX4_longest 9 = .ok (.invokestatic 186, 3) := by decide +kernel
theorem dX4_longest_12 : decode cX4_longest 12 = .ok (.ifCond .eq 14, 3) := by decide +kernel
theorem dX4_longest_15 : decode cX4_longest 15 = .ok (.iload 4, 2) := by decide +kernel
theorem dX4_longest_17 : decode cX4_longest 17 = .ok (.ifCond .lt 9, 3) := by decide +kernel
theorem dX4_longest_20 : decode cX4_longest 20 = .ok (.iload 4, 2) := by decide +kernel
theorem dX4_longest_22 : decode cX4_longest 22 = .ok (.iconst 1, 1) := by decide +kernel
theorem dX4_longest_23 : decode cX4_longest 23 = .ok (.if_icmp .le 5, 3) := by decide +kernel
theorem dX4_longest_26 : decode cX4_longest 26 = .ok (.iconst (-1), 1) := by decide +kernel
theorem dX4_longest_27 : decode cX4_longest 27 = .ok (.ireturn, 1) := by decide +kernel
theorem dX4_longest_28 : decode cX4_longest 28 = .ok (.iconst (-1), 1) := by decide +kernel
theorem dX4_longest_29 : decode cX4_longest 29 = .ok (.istore 5, 2) := by decide +kernel
theorem dX4_longest_31 : decode cX4_longest 31 = .ok (.iconst (-1), 1) := by decide +kernel
theorem dX4_longest_32 : decode cX4_longest 32 = .ok (.istore 6, 2) := by decide +kernel
theorem dX4_longest_34 : decode cX4_longest 34 = .ok (.iconst 0, 1) := by decide +kernel
theorem dX4_longest_35 : decode cX4_longest 35 = .ok (.istore 7, 2) := by decide +kernel
theorem dX4_longest_37 : decode cX4_longest 37 = .ok (.iload 7, 2) := by decide +kernel
theorem dX4_longest_39 : decode cX4_longest 39 = .ok (.aload_n 0, 1) := by decide +kernel
theorem dX4_longest_40 : decode cX4_longest 40 = .ok (.getfield 12, 3) := by decide +kernel
theorem dX4_longest_43 : decode cX4_longest 43 = .ok (.getfield 57, 3) := by decide +kernel
theorem dX4_longest_46 : decode cX4_longest 46 = .ok (.if_icmp .ge 47, 3) := by decide +kernel
theorem dX4_longest_93 : decode cX4_longest 93 = .ok (.iload 4, 2) := by decide +kernel
theorem dX4_longest_95 : decode cX4_longest 95 = .ok (.ifCond .ne 8, 3) := by decide +kernel
theorem dX4_longest_98 : decode cX4_longest 98 = .ok (.iload 5, 2) := by decide +kernel
theorem dX4_longest_100 : decode cX4_longest 100 = .ok (.goto 5, 3) := by decide +kernel
theorem dX4_longest_103 : decode cX4_longest 103 = .ok (.iload 6, 2) := by decide +kernel
theorem dX4_longest_105 : decode cX4_longest 105 = .ok (.ireturn, 1) := by decide +kernel
set_option maxRecDepth 20000 in
theorem ggX4_reach_X0_hasPlace : GoodIn wsX4_reach wsX0_hasPlace := goodIn_r _ [8, 9, 50, 51] (by decide +kernel) (by decide +kernel)
set_option maxRecDepth 20000 in
theorem gX4_reach_X0_hasPlace : GoodIn wsX4_reach (wsV RX4 64 RX0 yX0_hasPlace wsX0_hasPlace) := goodIn_app (goodIn_of _ (by decide +kernel)) ggX4_reach_X0_hasPlace
theorem dX4_reach_0 : decode cX4_reach 0 = .ok (.aload_n 0, 1) := by decide +kernel
theorem dX4_reach_1 : decode cX4_reach 1 = .ok (.getfield 12, 3) := by decide +kernel
theorem dX4_reach_4 : decode cX4_reach 4 = .ok (.iload_n 1, 1) := by decide +kernel
theorem dX4_reach_5 : decode cX4_reach 5 = .ok (.invokevirtual 64, 3) := by decide +kernel
theorem dX4_reach_8 : decode cX4_reach 8 = .ok (.ifCond .ne 5, 3) := by decide +kernel
theorem dX4_reach_11 : decode cX4_reach 11 = .ok (.iconst (-1), 1) := by decide +kernel
theorem dX4_reach_12 : decode cX4_reach 12 = .ok (.ireturn, 1) := by decide +kernel
set_option maxRecDepth 20000 in
theorem ggX4_parted_X0_hasRange : GoodIn wsX4_parted wsX0_hasRange := goodIn_r _ [12, 13, 55, 56] (by decide +kernel) (by decide +kernel)
set_option maxRecDepth 20000 in
theorem gX4_parted_X0_hasRange : GoodIn wsX4_parted (wsV RX4 79 RX0 yX0_hasRange wsX0_hasRange) := goodIn_app (goodIn_of _ (by decide +kernel)) ggX4_parted_X0_hasRange
theorem dX4_parted_0 : decode cX4_parted 0 = .ok (.aload_n 0, 1) := by decide +kernel
theorem dX4_parted_1 : decode cX4_parted 1 = .ok (.getfield 12, 3) := by decide +kernel
theorem dX4_parted_4 : decode cX4_parted 4 = .ok (.iload_n 1, 1) := by decide +kernel
theorem dX4_parted_5 : decode cX4_parted 5 = .ok (.iload_n 2, 1) := by decide +kernel
theorem dX4_parted_6 : decode cX4_parted 6 = .ok (.invokevirtual 79, 3) := by decide +kernel
theorem dX4_parted_9 : decode cX4_parted 9 = .ok (.ifCond .ne 5, 3) := by decide +kernel
theorem dX4_parted_12 : decode cX4_parted 12 = .ok (.iconst (-1), 1) := by decide +kernel
theorem dX4_parted_13 : decode cX4_parted 13 = .ok (.ireturn, 1) := by decide +kernel
set_option maxRecDepth 20000 in
theorem ggX4_cut_X0_hasRange : GoodIn wsX4_cut wsX0_hasRange := goodIn_r _ [7, 8, 31, 32] (by decide +kernel) (by decide +kernel)
set_option maxRecDepth 20000 in
theorem gX4_cut_X0_hasRange : GoodIn wsX4_cut (wsV RX4 79 RX0 yX0_hasRange wsX0_hasRange) := goodIn_app (goodIn_of _ (by decide +kernel)) ggX4_cut_X0_hasRange
theorem dX4_cut_0 : decode cX4_cut 0 = .ok (.aload_n 0, 1) := by decide +kernel
theorem dX4_cut_1 : decode cX4_cut 1 = .ok (.getfield 12, 3) := by decide +kernel
theorem dX4_cut_4 : decode cX4_cut 4 = .ok (.iload_n 1, 1) := by decide +kernel
theorem dX4_cut_5 : decode cX4_cut 5 = .ok (.iload_n 2, 1) := by decide +kernel
theorem dX4_cut_6 : decode cX4_cut 6 = .ok (.invokevirtual 79, 3) := by decide +kernel
theorem dX4_cut_9 : decode cX4_cut 9 = .ok (.ifCond .ne 5, 3) := by decide +kernel
theorem dX4_cut_12 : decode cX4_cut 12 = .ok (.iconst (-1), 1) := by decide +kernel
theorem dX4_cut_13 : decode cX4_cut 13 = .ok (.ireturn, 1) := by decide +kernel
set_option maxRecDepth 20000 in
theorem ggX4_majorities_X1_learn : GoodIn wsX4_majorities wsX1_learn := goodIn_r _ [8, 9, 10, 11, 12, 13, 14, 15, 16, 45, 46, 47, 48, 49, 50] (by decide +kernel) (by decide +kernel)
set_option maxRecDepth 20000 in
theorem gX4_majorities_X1_learn : GoodIn wsX4_majorities (wsV RX4 117 RX1 yX1_learn wsX1_learn) := goodIn_app (goodIn_of _ (by decide +kernel)) ggX4_majorities_X1_learn
theorem dX4_majorities_0 : decode cX4_majorities 0 = .ok (.aload_n 0, 1) := by decide +kernel
theorem dX4_majorities_1 : decode cX4_majorities 1 = .ok (.getfield 28, 3) := by decide +kernel
theorem dX4_majorities_4 : decode cX4_majorities 4 = .ok (.aload_n 0, 1) := by decide +kernel
theorem dX4_majorities_5 : decode cX4_majorities 5 = .ok (.getfield 12, 3) := by decide +kernel
theorem dX4_majorities_8 : decode cX4_majorities 8 = .ok (.invokevirtual 117, 3) := by decide +kernel
theorem dX4_majorities_11 : decode cX4_majorities 11 = .ok (.iconst 0, 1) := by decide +kernel
theorem dX4_majorities_12 : decode cX4_majorities 12 = .ok (.istore_n 1, 1) := by decide +kernel
theorem dX4_majorities_13 : decode cX4_majorities 13 = .ok (.iconst 0, 1) := by decide +kernel
theorem dX4_majorities_14 : decode cX4_majorities 14 = .ok (.istore_n 2, 1) := by decide +kernel
theorem dX4_majorities_15 : decode cX4_majorities 15 = .ok (.iload_n 2, 1) := by decide +kernel
theorem dX4_majorities_16 : decode cX4_majorities 16 = .ok (.aload_n 0, 1) := by decide +kernel
theorem dX4_majorities_17 : decode cX4_majorities 17 = .ok (.getfield 12, 3) := by decide +kernel
theorem dX4_majorities_20 : decode cX4_majorities 20 = .ok (.getfield 57, 3) := by decide +kernel
theorem dX4_majorities_23 : decode cX4_majorities 23 = .ok (.if_icmp .ge 56, 3) := by decide +kernel
theorem dX4_majorities_79 : decode cX4_majorities 79 = .ok (.iload_n 1, 1) := by decide +kernel
theorem dX4_majorities_80 : decode cX4_majorities 80 = .ok (.ireturn, 1) := by decide +kernel
theorem dX4_windows_0 : decode cX4_windows 0 = .ok (.iload 4, 2) := by decide +kernel
theorem dX4_windows_2 : decode cX4_windows 2 = .ok (.ifCond .lt 9, 3) := by decide +kernel
theorem dX4_windows_5 : decode cX4_windows 5 = .ok (.iload 4, 2) := by decide +kernel
theorem dX4_windows_7 : decode cX4_windows 7 = .ok (.iconst 2, 1) := by decide +kernel
theorem dX4_windows_8 : decode cX4_windows 8 = .ok (.if_icmp .le 5, 3) := by decide +kernel
theorem dX4_windows_11 : decode cX4_windows 11 = .ok (.iconst (-1), 1) := by decide +kernel
theorem dX4_windows_12 : decode cX4_windows 12 = .ok (.ireturn, 1) := by decide +kernel
theorem dX4_windows_13 : decode cX4_windows 13 = .ok (.iload_n 1, 1) := by decide +kernel
theorem dX4_windows_14 : decode cX4_windows 14 = .ok (.iconst 1, 1) := by decide +kernel
theorem dX4_windows_15 : decode cX4_windows 15 = .ok (.if_icmp .lt 22, 3) := by decide +kernel
theorem dX4_windows_18 : decode cX4_windows 18 = .ok (.iload_n 1, 1) := by decide +kernel
theorem dX4_windows_19 : decode cX4_windows 19 = .ok (.aload_n 0, 1) := by decide +kernel
theorem dX4_windows_20 : decode cX4_windows 20 = .ok (.getfield 12, 3) := by decide +kernel
theorem dX4_windows_23 : decode cX4_windows 23 = .ok (.getfield 57, 3) := by decide +kernel
theorem dX4_windows_26 : decode cX4_windows 26 = .ok (.if_icmp .gt 11, 3) := by decide +kernel
theorem dX4_windows_37 : decode cX4_windows 37 = .ok (.iload 4, 2) := by decide +kernel
theorem dX4_windows_39 : decode cX4_windows 39 = .ok (.iconst 1, 1) := by decide +kernel
theorem dX4_windows_40 : decode cX4_windows 40 = .ok (.if_icmp .ne 8, 3) := by decide +kernel
theorem dX4_windows_43 : decode cX4_windows 43 = .ok (.ldc 102, 2) := by decide +kernel
theorem dX4_windows_45 : decode cX4_windows 45 = .ok (.goto 4, 3) := by decide +kernel
theorem dX4_windows_48 : decode cX4_windows 48 = .ok (.iconst (-1), 1) := by decide +kernel
theorem dX4_windows_49 : decode cX4_windows 49 = .ok (.ireturn, 1) := by decide +kernel
set_option maxRecDepth 20000 in
theorem ggX4_needs_X4_isValue : GoodIn wsX4_needs wsX4_isValue := goodIn_r _ [9] (by decide +kernel) (by decide +kernel)
set_option maxRecDepth 20000 in
theorem gX4_needs_X4_isValue : GoodIn wsX4_needs (va_wsS RX4 68 yX4_isValue wsX4_isValue) := goodIn_app (goodIn_of _ (by decide +kernel)) ggX4_needs_X4_isValue
set_option maxRecDepth 20000 in
theorem ggX4_needs_X0_hasRange : GoodIn wsX4_needs wsX0_hasRange := goodIn_r _ [14, 15, 36, 37] (by decide +kernel) (by decide +kernel)
set_option maxRecDepth 20000 in
theorem gX4_needs_X0_hasRange : GoodIn wsX4_needs (wsV RX4 79 RX0 yX0_hasRange wsX0_hasRange) := goodIn_app (goodIn_of _ (by decide +kernel)) ggX4_needs_X0_hasRange
theorem dX4_needs_0 : decode cX4_needs 0 = .ok (.iload_n 1, 1) := by decide +kernel
theorem dX4_needs_1 : decode cX4_needs 1 = .ok (.invokestatic 68, 3) := by decide +kernel
theorem dX4_needs_4 : decode cX4_needs 4 = .ok (.ifCond .eq 25, 3) := by decide +kernel
theorem dX4_needs_7 : decode cX4_needs 7 = .ok (.aload_n 0, 1) := by decide +kernel
theorem dX4_needs_8 : decode cX4_needs 8 = .ok (.getfield 12, 3) := by decide +kernel
theorem dX4_needs_11 : decode cX4_needs 11 = .ok (.iload_n 2, 1) := by decide +kernel
theorem dX4_needs_12 : decode cX4_needs 12 = .ok (.iload_n 3, 1) := by decide +kernel
theorem dX4_needs_13 : decode cX4_needs 13 = .ok (.invokevirtual 79, 3) := by decide +kernel
theorem dX4_needs_16 : decode cX4_needs 16 = .ok (.ifCond .eq 13, 3) := by decide +kernel
theorem dX4_needs_29 : decode cX4_needs 29 = .ok (.iconst (-1), 1) := by decide +kernel
theorem dX4_needs_30 : decode cX4_needs 30 = .ok (.ireturn, 1) := by decide +kernel
set_option maxRecDepth 20000 in
theorem ggX4_spares_X4_isValue : GoodIn wsX4_spares wsX4_isValue := goodIn_r _ [9] (by decide +kernel) (by decide +kernel)
set_option maxRecDepth 20000 in
theorem gX4_spares_X4_isValue : GoodIn wsX4_spares (va_wsS RX4 68 yX4_isValue wsX4_isValue) := goodIn_app (goodIn_of _ (by decide +kernel)) ggX4_spares_X4_isValue
set_option maxRecDepth 20000 in
theorem ggX4_spares_X0_hasRange : GoodIn wsX4_spares wsX0_hasRange := goodIn_r _ [14, 15, 36, 37] (by decide +kernel) (by decide +kernel)
set_option maxRecDepth 20000 in
theorem gX4_spares_X0_hasRange : GoodIn wsX4_spares (wsV RX4 79 RX0 yX0_hasRange wsX0_hasRange) := goodIn_app (goodIn_of _ (by decide +kernel)) ggX4_spares_X0_hasRange
theorem dX4_spares_0 : decode cX4_spares 0 = .ok (.iload_n 1, 1) := by decide +kernel
theorem dX4_spares_1 : decode cX4_spares 1 = .ok (.invokestatic 68, 3) := by decide +kernel
theorem dX4_spares_4 : decode cX4_spares 4 = .ok (.ifCond .eq 25, 3) := by decide +kernel
theorem dX4_spares_7 : decode cX4_spares 7 = .ok (.aload_n 0, 1) := by decide +kernel
theorem dX4_spares_8 : decode cX4_spares 8 = .ok (.getfield 12, 3) := by decide +kernel
theorem dX4_spares_11 : decode cX4_spares 11 = .ok (.iload_n 2, 1) := by decide +kernel
theorem dX4_spares_12 : decode cX4_spares 12 = .ok (.iload_n 3, 1) := by decide +kernel
theorem dX4_spares_13 : decode cX4_spares 13 = .ok (.invokevirtual 79, 3) := by decide +kernel
theorem dX4_spares_16 : decode cX4_spares 16 = .ok (.ifCond .eq 13, 3) := by decide +kernel
theorem dX4_spares_29 : decode cX4_spares 29 = .ok (.iconst (-1), 1) := by decide +kernel
theorem dX4_spares_30 : decode cX4_spares 30 = .ok (.ireturn, 1) := by decide +kernel
set_option maxRecDepth 20000 in
theorem ggX4_would_X0_hasPlace : GoodIn wsX4_would wsX0_hasPlace := goodIn_r _ [8, 9, 39, 40] (by decide +kernel) (by decide +kernel)
set_option maxRecDepth 20000 in
theorem gX4_would_X0_hasPlace : GoodIn wsX4_would (wsV RX4 64 RX0 yX0_hasPlace wsX0_hasPlace) := goodIn_app (goodIn_of _ (by decide +kernel)) ggX4_would_X0_hasPlace
theorem dX4_would_0 : decode cX4_would 0 = .ok (.aload_n 0, 1) := by decide +kernel
theorem dX4_would_1 : decode cX4_would 1 = .ok (.getfield 12, 3) := by decide +kernel
theorem dX4_would_4 : decode cX4_would 4 = .ok (.iload_n 1, 1) := by decide +kernel
theorem dX4_would_5 : decode cX4_would 5 = .ok (.invokevirtual 64, 3) := by decide +kernel
theorem dX4_would_8 : decode cX4_would 8 = .ok (.ifCond .eq 23, 3) := by decide +kernel
theorem dX4_would_31 : decode cX4_would 31 = .ok (.ldc 102, 2) := by decide +kernel
theorem dX4_would_33 : decode cX4_would 33 = .ok (.ireturn, 1) := by decide +kernel
set_option maxRecDepth 20000 in
theorem ggX4_swings_X0_hasRange : GoodIn wsX4_swings wsX0_hasRange := goodIn_r _ [6, 7, 129, 130] (by decide +kernel) (by decide +kernel)
set_option maxRecDepth 20000 in
theorem gX4_swings_X0_hasRange : GoodIn wsX4_swings (wsV RX4 79 RX0 yX0_hasRange wsX0_hasRange) := goodIn_app (goodIn_of _ (by decide +kernel)) ggX4_swings_X0_hasRange
theorem dX4_swings_0 : decode cX4_swings 0 = .ok (.aload_n 0, 1) := by decide +kernel
theorem dX4_swings_1 : decode cX4_swings 1 = .ok (.getfield 12, 3) := by decide +kernel
theorem dX4_swings_4 : decode cX4_swings 4 = .ok (.iload_n 1, 1) := by decide +kernel
theorem dX4_swings_5 : decode cX4_swings 5 = .ok (.iload_n 2, 1) := by decide +kernel
theorem dX4_swings_6 : decode cX4_swings 6 = .ok (.invokevirtual 79, 3) := by decide +kernel
theorem dX4_swings_9 : decode cX4_swings 9 = .ok (.ifCond .eq 29, 3) := by decide +kernel
theorem dX4_swings_38 : decode cX4_swings 38 = .ok (.iconst (-1), 1) := by decide +kernel
theorem dX4_swings_39 : decode cX4_swings 39 = .ok (.ireturn, 1) := by decide +kernel
set_option maxRecDepth 20000 in
theorem ggX4_told_X4_laidTree : GoodIn wsX4_told wsX4_laidTree := goodIn_r _ [10, 11, 12, 3, 13, 1, 2, 14, 15, 16, 17, 18, 19, 20, 21, 22, 23, 24, 25, 26, 27, 28, 29, 30, 31, 32, 33, 34, 35, 36, 37, 38, 39, 40, 41, 42, 43, 44, 45, 46, 47, 48, 49, 50, 51, 52, 53, 54, 55, 56, 57, 58, 59, 60, 61, 62, 63, 64, 65, 66, 67, 68, 69, 70, 71, 72, 73, 74, 75, 76, 77, 78, 79, 80, 81, 82, 83, 84, 85, 86, 87, 88, 89, 90, 91, 92, 93, 94, 95, 96, 97, 98, 125, 126, 127, 128, 129, 130, 131, 132, 133, 136, 137, 138, 139, 140, 141, 142, 143, 144, 145, 146, 134, 135, 147, 148, 149, 150, 151] (by decide +kernel) (by decide +kernel)
set_option maxRecDepth 20000 in
theorem gX4_told_X4_laidTree : GoodIn wsX4_told (wsV RX4 71 RX4 yX4_laidTree wsX4_laidTree) := goodIn_app (goodIn_of _ (by decide +kernel)) ggX4_told_X4_laidTree
set_option maxRecDepth 20000 in
theorem ggX4_told_X2_nodesWithMajority : GoodIn wsX4_told wsX2_nodesWithMajority := goodIn_r _ [102, 21, 19, 22, 23, 103, 104, 105, 106, 107, 108, 109, 110, 111, 112, 113, 114, 115, 9, 116, 136, 137, 138, 139, 140, 141, 142, 143, 144, 145, 146, 134, 135] (by decide +kernel) (by decide +kernel)
set_option maxRecDepth 20000 in
theorem gX4_told_X2_nodesWithMajority : GoodIn wsX4_told (wsV RX4 250 RX2 yX2_nodesWithMajority wsX2_nodesWithMajority) := goodIn_app (goodIn_of _ (by decide +kernel)) ggX4_told_X2_nodesWithMajority
set_option maxRecDepth 20000 in
theorem ggX4_told_X2_deepest : GoodIn wsX4_told wsX2_deepest := goodIn_r _ [120, 21, 19, 20, 136, 137, 138, 139, 140, 141, 142, 143, 144, 145, 146, 134, 135] (by decide +kernel) (by decide +kernel)
set_option maxRecDepth 20000 in
theorem gX4_told_X2_deepest : GoodIn wsX4_told (wsV RX4 253 RX2 yX2_deepest wsX2_deepest) := goodIn_app (goodIn_of _ (by decide +kernel)) ggX4_told_X2_deepest
set_option maxRecDepth 20000 in
theorem ggX4_told_X2_allLosses : GoodIn wsX4_told wsX2_allLosses := goodIn_r _ [124, 21, 65, 136, 137, 138, 139, 140, 141, 142, 143, 144, 145, 146] (by decide +kernel) (by decide +kernel)
set_option maxRecDepth 20000 in
theorem gX4_told_X2_allLosses : GoodIn wsX4_told (wsV RX4 256 RX2 yX2_allLosses wsX2_allLosses) := goodIn_app (goodIn_of _ (by decide +kernel)) ggX4_told_X2_allLosses
theorem dX4_told_0 : decode cX4_told 0 = .ok (.iload_n 1, 1) := by decide +kernel
theorem dX4_told_1 : decode cX4_told 1 = .ok (.tableswitch 112 0 6 #[43, 51, 56, 64, 72, 80, 104], 43) := by decide +kernel
theorem dX4_told_44 : decode cX4_told 44 = .ok (.aload_n 0, 1) := by decide +kernel
theorem dX4_told_45 : decode cX4_told 45 = .ok (.getfield 12, 3) := by decide +kernel
theorem dX4_told_48 : decode cX4_told 48 = .ok (.getfield 57, 3) := by decide +kernel
theorem dX4_told_51 : decode cX4_told 51 = .ok (.ireturn, 1) := by decide +kernel
theorem dX4_told_52 : decode cX4_told 52 = .ok (.aload_n 0, 1) := by decide +kernel
theorem dX4_told_53 : decode cX4_told 53 = .ok (.getfield 49, 3) := by decide +kernel
theorem dX4_told_56 : decode cX4_told 56 = .ok (.ireturn, 1) := by decide +kernel
theorem dX4_told_57 : decode cX4_told 57 = .ok (.aload_n 0, 1) := by decide +kernel
theorem dX4_told_58 : decode cX4_told 58 = .ok (.invokevirtual 71, 3) := by decide +kernel
theorem dX4_told_61 : decode cX4_told 61 = .ok (.getfield 163, 3) := by decide +kernel
theorem dX4_told_64 : decode cX4_told 64 = .ok (.ireturn, 1) := by decide +kernel
theorem dX4_told_65 : decode cX4_told 65 = .ok (.aload_n 0, 1) := by decide +kernel
theorem dX4_told_66 : decode cX4_told 66 = .ok (.invokevirtual 71, 3) := by decide +kernel
theorem dX4_told_69 : decode cX4_told 69 = .ok (.invokevirtual 250, 3) := by decide +kernel
theorem dX4_told_72 : decode cX4_told 72 = .ok (.ireturn, 1) := by decide +kernel
theorem dX4_told_73 : decode cX4_told 73 = .ok (.aload_n 0, 1) := by decide +kernel
theorem dX4_told_74 : decode cX4_told 74 = .ok (.invokevirtual 71, 3) := by decide +kernel
theorem dX4_told_77 : decode cX4_told 77 = .ok (.invokevirtual 253, 3) := by decide +kernel
theorem dX4_told_80 : decode cX4_told 80 = .ok (.ireturn, 1) := by decide +kernel
theorem dX4_told_81 : decode cX4_told 81 = .ok (.aload_n 0, 1) := by decide +kernel
theorem dX4_told_82 : decode cX4_told 82 = .ok (.getfield 12, 3) := by decide +kernel
theorem dX4_told_85 : decode cX4_told 85 = .ok (.getfield 57, 3) := by decide +kernel
theorem dX4_told_88 : decode cX4_told 88 = .ok (.ifCond .ne 7, 3) := by decide +kernel
theorem dX4_told_91 : decode cX4_told 91 = .ok (.iconst 0, 1) := by decide +kernel
theorem dX4_told_92 : decode cX4_told 92 = .ok (.goto 12, 3) := by decide +kernel
theorem dX4_told_104 : decode cX4_told 104 = .ok (.ireturn, 1) := by decide +kernel
theorem dX4_told_105 : decode cX4_told 105 = .ok (.aload_n 0, 1) := by decide +kernel
theorem dX4_told_106 : decode cX4_told 106 = .ok (.invokevirtual 71, 3) := by decide +kernel
theorem dX4_told_109 : decode cX4_told 109 = .ok (.invokevirtual 256, 3) := by decide +kernel
theorem dX4_told_112 : decode cX4_told 112 = .ok (.ireturn, 1) := by decide +kernel
theorem dX4_told_113 : decode cX4_told 113 = .ok (.iconst (-1), 1) := by decide +kernel
theorem dX4_told_114 : decode cX4_told 114 = .ok (.ireturn, 1) := by decide +kernel
theorem dX4_isValue_0 : decode cX4_isValue 0 = .ok (.iload_n 0, 1) := by decide +kernel
theorem dX4_isValue_1 : decode cX4_isValue 1 = .ok (.sipush (-32768), 3) := by decide +kernel
theorem dX4_isValue_4 : decode cX4_isValue 4 = .ok (.if_icmp .lt 14, 3) := by decide +kernel
theorem dX4_isValue_7 : decode cX4_isValue 7 = .ok (.iload_n 0, 1) := by decide +kernel
theorem dX4_isValue_8 : decode cX4_isValue 8 = .ok (.sipush 32767, 3) := by decide +kernel
theorem dX4_isValue_11 : decode cX4_isValue 11 = .ok (.if_icmp .gt 7, 3) := by decide +kernel
theorem dX4_isValue_14 : decode cX4_isValue 14 = .ok (.iconst 1, 1) := by decide +kernel
theorem dX4_isValue_15 : decode cX4_isValue 15 = .ok (.goto 4, 3) := by decide +kernel
theorem dX4_isValue_18 : decode cX4_isValue 18 = .ok (.iconst 0, 1) := by decide +kernel
theorem dX4_isValue_19 : decode cX4_isValue 19 = .ok (.ireturn, 1) := by decide +kernel
theorem dX4_isShare_0 : decode cX4_isShare 0 = .ok (.iload_n 0, 1) := by decide +kernel
theorem dX4_isShare_1 : decode cX4_isShare 1 = .ok (.iconst 1, 1) := by decide +kernel
theorem dX4_isShare_2 : decode cX4_isShare 2 = .ok (.if_icmp .lt 19, 3) := by decide +kernel
theorem dX4_isShare_5 : decode cX4_isShare 5 = .ok (.iload_n 1, 1) := by decide +kernel
theorem dX4_isShare_6 : decode cX4_isShare 6 = .ok (.iload_n 0, 1) := by decide +kernel
theorem dX4_isShare_7 : decode cX4_isShare 7 = .ok (.if_icmp .lt 14, 3) := by decide +kernel
theorem dX4_isShare_10 : decode cX4_isShare 10 = .ok (.iload_n 1, 1) := by decide +kernel
theorem dX4_isShare_11 : decode cX4_isShare 11 = .ok (.sipush 999, 3) := by decide +kernel
theorem dX4_isShare_14 : decode cX4_isShare 14 = .ok (.if_icmp .gt 7, 3) := by decide +kernel
theorem dX4_isShare_17 : decode cX4_isShare 17 = .ok (.iconst 1, 1) := by decide +kernel
theorem dX4_isShare_18 : decode cX4_isShare 18 = .ok (.goto 4, 3) := by decide +kernel
theorem dX4_isShare_21 : decode cX4_isShare 21 = .ok (.iconst 0, 1) := by decide +kernel
theorem dX4_isShare_22 : decode cX4_isShare 22 = .ok (.ireturn, 1) := by decide +kernel
set_option maxRecDepth 20000 in
theorem ggX4_laidTree_X2_layRanges : GoodIn wsX4_laidTree wsX2_layRanges := goodIn_r _ [11, 12, 13, 14, 15, 16, 17, 18, 19, 10, 20, 21, 22, 23, 24, 101, 102, 103, 104, 105, 106, 107, 108, 109, 110, 111, 112, 113] (by decide +kernel) (by decide +kernel)
set_option maxRecDepth 20000 in
theorem gX4_laidTree_X2_layRanges : GoodIn wsX4_laidTree (wsV RX4 259 RX2 yX2_layRanges wsX2_layRanges) := goodIn_app (goodIn_of _ (by decide +kernel)) ggX4_laidTree_X2_layRanges
set_option maxRecDepth 20000 in
theorem ggX4_laidTree_X2_renew : GoodIn wsX4_laidTree wsX2_renew := goodIn_r _ [28, 14, 15, 16, 29, 30, 31, 10, 32, 33, 12, 34, 35, 36, 37, 38, 39, 40, 41, 42, 43, 44, 45, 46, 47, 48, 49, 50, 51, 52, 53, 54, 55, 56, 57, 58, 21, 22, 23, 24, 59, 60, 61, 62, 63, 64, 65, 66, 67, 68, 69, 70, 71, 72, 73, 74, 75, 76, 77, 78, 79, 80, 81, 82, 83, 84, 85, 86, 87, 88, 89, 90, 91, 101, 102, 103, 104, 105, 106, 107, 108, 109, 110, 111, 112, 113, 114, 115, 116, 117, 118] (by decide +kernel) (by decide +kernel)
set_option maxRecDepth 20000 in
theorem gX4_laidTree_X2_renew : GoodIn wsX4_laidTree (wsV RX4 87 RX2 yX2_renew wsX2_renew) := goodIn_app (goodIn_of _ (by decide +kernel)) ggX4_laidTree_X2_renew
theorem dX4_laidTree_0 : decode cX4_laidTree 0 = .ok (.aload_n 0, 1) := by decide +kernel
theorem dX4_laidTree_1 : decode cX4_laidTree 1 = .ok (.getfield 53, 3) := by decide +kernel
theorem dX4_laidTree_4 : decode cX4_laidTree 4 = .ok (.ifCond .eq 42, 3) := by decide +kernel
theorem dX4_laidTree_7 : decode cX4_laidTree 7 = .ok (.aload_n 0, 1) := by decide +kernel
theorem dX4_laidTree_8 : decode cX4_laidTree 8 = .ok (.getfield 21, 3) := by decide +kernel
theorem dX4_laidTree_11 : decode cX4_laidTree 11 = .ok (.invokevirtual 259, 3) := by decide +kernel
theorem dX4_laidTree_14 : decode cX4_laidTree 14 = .ok (.aload_n 0, 1) := by decide +kernel
theorem dX4_laidTree_15 : decode cX4_laidTree 15 = .ok (.getfield 21, 3) := by decide +kernel
theorem dX4_laidTree_18 : decode cX4_laidTree 18 = .ok (.aload_n 0, 1) := by decide +kernel
theorem dX4_laidTree_19 : decode cX4_laidTree 19 = .ok (.getfield 49, 3) := by decide +kernel
theorem dX4_laidTree_22 : decode cX4_laidTree 22 = .ok (.putfield 204, 3) := by decide +kernel
theorem dX4_laidTree_25 : decode cX4_laidTree 25 = .ok (.aload_n 0, 1) := by decide +kernel
theorem dX4_laidTree_26 : decode cX4_laidTree 26 = .ok (.getfield 21, 3) := by decide +kernel
theorem dX4_laidTree_29 : decode cX4_laidTree 29 = .ok (.iconst 0, 1) := by decide +kernel
theorem dX4_laidTree_30 : decode cX4_laidTree 30 = .ok (.aload_n 0, 1) := by decide +kernel
theorem dX4_laidTree_31 : decode cX4_laidTree 31 = .ok (.getfield 12, 3) := by decide +kernel
theorem dX4_laidTree_34 : decode cX4_laidTree 34 = .ok (.getfield 57, 3) := by decide +kernel
theorem dX4_laidTree_37 : decode cX4_laidTree 37 = .ok (.invokevirtual 87, 3) := by decide +kernel
theorem dX4_laidTree_40 : decode cX4_laidTree 40 = .ok (.pop, 1) := by decide +kernel
theorem dX4_laidTree_41 : decode cX4_laidTree 41 = .ok (.aload_n 0, 1) := by decide +kernel
theorem dX4_laidTree_42 : decode cX4_laidTree 42 = .ok (.iconst 0, 1) := by decide +kernel
theorem dX4_laidTree_43 : decode cX4_laidTree 43 = .ok (.putfield 53, 3) := by decide +kernel
theorem dX4_laidTree_46 : decode cX4_laidTree 46 = .ok (.aload_n 0, 1) := by decide +kernel
theorem dX4_laidTree_47 : decode cX4_laidTree 47 = .ok (.getfield 21, 3) := by decide +kernel
theorem dX4_laidTree_50 : decode cX4_laidTree 50 = .ok (.areturn, 1) := by decide +kernel
set_option maxRecDepth 20000 in
theorem ggX4_refusalOfBoth_X0_hasRange : GoodIn wsX4_refusalOfBoth wsX0_hasRange := goodIn_r _ [6, 7, 26, 27] (by decide +kernel) (by decide +kernel)
set_option maxRecDepth 20000 in
theorem gX4_refusalOfBoth_X0_hasRange : GoodIn wsX4_refusalOfBoth (wsV RX4 79 RX0 yX0_hasRange wsX0_hasRange) := goodIn_app (goodIn_of _ (by decide +kernel)) ggX4_refusalOfBoth_X0_hasRange
theorem dX4_refusalOfBoth_0 : decode cX4_refusalOfBoth 0 = .ok (.aload_n 0, 1) := by decide +kernel
theorem dX4_refusalOfBoth_1 : decode cX4_refusalOfBoth 1 = .ok (.getfield 12, 3) := by decide +kernel
theorem dX4_refusalOfBoth_4 : decode cX4_refusalOfBoth 4 = .ok (.iload_n 1, 1) := by decide +kernel
theorem dX4_refusalOfBoth_5 : decode cX4_refusalOfBoth 5 = .ok (.iload_n 2, 1) := by decide +kernel
theorem dX4_refusalOfBoth_6 : decode cX4_refusalOfBoth 6 = .ok (.invokevirtual 79, 3) := by decide +kernel
theorem dX4_refusalOfBoth_9 : decode cX4_refusalOfBoth 9 = .ok (.ifCond .eq 26, 3) := by decide +kernel
theorem dX4_refusalOfBoth_35 : decode cX4_refusalOfBoth 35 = .ok (.iconst (-1), 1) := by decide +kernel
theorem dX4_refusalOfBoth_36 : decode cX4_refusalOfBoth 36 = .ok (.ireturn, 1) := by decide +kernel
theorem dX5_within_0 : decode cX5_within 0 = .ok (.iload_n 0, 1) := by decide +kernel
theorem dX5_within_1 : decode cX5_within 1 = .ok (.iload_n 1, 1) := by decide +kernel
theorem dX5_within_2 : decode cX5_within 2 = .ok (.if_icmp .lt 12, 3) := by decide +kernel
theorem dX5_within_5 : decode cX5_within 5 = .ok (.iload_n 0, 1) := by decide +kernel
theorem dX5_within_6 : decode cX5_within 6 = .ok (.iload_n 2, 1) := by decide +kernel
theorem dX5_within_7 : decode cX5_within 7 = .ok (.if_icmp .gt 7, 3) := by decide +kernel
theorem dX5_within_10 : decode cX5_within 10 = .ok (.iconst 1, 1) := by decide +kernel
theorem dX5_within_11 : decode cX5_within 11 = .ok (.goto 4, 3) := by decide +kernel
theorem dX5_within_14 : decode cX5_within 14 = .ok (.iconst 0, 1) := by decide +kernel
theorem dX5_within_15 : decode cX5_within 15 = .ok (.ireturn, 1) := by decide +kernel
set_option maxRecDepth 20000 in
theorem ggX5_isValue_X5_within : GoodIn wsX5_isValue wsX5_within := goodIn_r _ [4] (by decide +kernel) (by decide +kernel)
set_option maxRecDepth 20000 in
theorem gX5_isValue_X5_within : GoodIn wsX5_isValue (va_wsS RX5 80 yX5_within wsX5_within) := goodIn_app (goodIn_of _ (by decide +kernel)) ggX5_isValue_X5_within
theorem dX5_isValue_0 : decode cX5_isValue 0 = .ok (.iload_n 0, 1) := by decide +kernel
theorem dX5_isValue_1 : decode cX5_isValue 1 = .ok (.sipush (-32768), 3) := by decide +kernel
theorem dX5_isValue_4 : decode cX5_isValue 4 = .ok (.sipush 32767, 3) := by decide +kernel
theorem dX5_isValue_7 : decode cX5_isValue 7 = .ok (.invokestatic 80, 3) := by decide +kernel
theorem dX5_isValue_10 : decode cX5_isValue 10 = .ok (.ireturn, 1) := by decide +kernel
set_option maxRecDepth 20000 in
theorem ggX5_isShare_X5_within : GoodIn wsX5_isShare wsX5_within := goodIn_r _ [4] (by decide +kernel) (by decide +kernel)
set_option maxRecDepth 20000 in
theorem gX5_isShare_X5_within : GoodIn wsX5_isShare (va_wsS RX5 80 yX5_within wsX5_within) := goodIn_app (goodIn_of _ (by decide +kernel)) ggX5_isShare_X5_within
theorem dX5_isShare_0 : decode cX5_isShare 0 = .ok (.iload_n 0, 1) := by decide +kernel
theorem dX5_isShare_1 : decode cX5_isShare 1 = .ok (.iconst 1, 1) := by decide +kernel
theorem dX5_isShare_2 : decode cX5_isShare 2 = .ok (.sipush 999, 3) := by decide +kernel
theorem dX5_isShare_5 : decode cX5_isShare 5 = .ok (.invokestatic 80, 3) := by decide +kernel
theorem dX5_isShare_8 : decode cX5_isShare 8 = .ok (.ifCond .eq 18, 3) := by decide +kernel
theorem dX5_isShare_11 : decode cX5_isShare 11 = .ok (.iload_n 1, 1) := by decide +kernel
theorem dX5_isShare_12 : decode cX5_isShare 12 = .ok (.iload_n 0, 1) := by decide +kernel
theorem dX5_isShare_13 : decode cX5_isShare 13 = .ok (.sipush 999, 3) := by decide +kernel
theorem dX5_isShare_16 : decode cX5_isShare 16 = .ok (.invokestatic 80, 3) := by decide +kernel
theorem dX5_isShare_19 : decode cX5_isShare 19 = .ok (.ifCond .eq 7, 3) := by decide +kernel
theorem dX5_isShare_22 : decode cX5_isShare 22 = .ok (.iconst 1, 1) := by decide +kernel
theorem dX5_isShare_23 : decode cX5_isShare 23 = .ok (.goto 4, 3) := by decide +kernel
theorem dX5_isShare_26 : decode cX5_isShare 26 = .ok (.iconst 0, 1) := by decide +kernel
theorem dX5_isShare_27 : decode cX5_isShare 27 = .ok (.ireturn, 1) := by decide +kernel
abbrev vwCl : List vw_C := [(RX0, TX0, 2), (RX1, TX1, 4), (RX2, TX2, 11), (RX3, TX3, 5), (RX4, TX4, 9), (RX5, TX5, 30)]
