def RX0 : String := "MajorityIndex$Row"
def TX0 : u_T := fun k => match k with
  | 0 => ("MajorityIndex$Row", "cell", "[I", true)
  | _ => ("MajorityIndex$Row", "length", "I", false)
abbrev wsX00 : List Cond := u_ws RX0 TX0 2
abbrev cX0_hasPlace : ByteArray := prog_2_method_2_code
def yX0_hasPlace : MethodName := ⟨RX0, "hasPlace", "(I)Z"⟩
abbrev cX0_hasRange : ByteArray := prog_2_method_3_code
def yX0_hasRange : MethodName := ⟨RX0, "hasRange", "(II)Z"⟩
def RX1 : String := "MajorityIndex$Tally"
def TX1 : u_T := fun k => match k with
  | 0 => ("MajorityIndex$Tally", "kind", "[I", true)
  | 1 => ("MajorityIndex$Tally", "often", "[I", true)
  | 2 => ("MajorityIndex$Tally", "taken", "I", false)
  | _ => ("MajorityIndex$Tally", "most", "I", false)
def RX2 : String := "MajorityIndex$Tree"
def TX2 : u_T := fun k => match k with
  | 0 => ("MajorityIndex$Tree", "row", "LMajorityIndex$Row;", true)
  | 1 => ("MajorityIndex$Tree", "joined", "LMajorityIndex$Votes;", true)
  | 2 => ("MajorityIndex$Tree", "from", "[I", true)
  | 3 => ("MajorityIndex$Tree", "to", "[I", true)
  | 4 => ("MajorityIndex$Tree", "size", "[I", true)
  | 5 => ("MajorityIndex$Tree", "lossOf", "[I", true)
  | 6 => ("MajorityIndex$Tree", "lessBy", "[I", true)
  | 7 => ("MajorityIndex$Tree", "value", "[I", true)
  | 8 => ("MajorityIndex$Tree", "number", "[I", true)
  | 9 => ("MajorityIndex$Tree", "nodes", "I", false)
  | _ => ("MajorityIndex$Tree", "slotsHere", "I", false)
def RX3 : String := "MajorityIndex$Votes"
def TX3 : u_T := fun k => match k with
  | 0 => ("MajorityIndex$Votes", "value", "[I", true)
  | 1 => ("MajorityIndex$Votes", "number", "[I", true)
  | 2 => ("MajorityIndex$Votes", "size", "I", false)
  | 3 => ("MajorityIndex$Votes", "lost", "I", false)
  | _ => ("MajorityIndex$Votes", "lessBy", "I", false)
def RX4 : String := "MajorityIndex"
def TX4 : u_T := fun k => match k with
  | 0 => ("MajorityIndex", "row", "LMajorityIndex$Row;", true)
  | 1 => ("MajorityIndex", "tree", "LMajorityIndex$Tree;", true)
  | 2 => ("MajorityIndex", "tally", "LMajorityIndex$Tally;", true)
  | 3 => ("MajorityIndex", "votes", "LMajorityIndex$Votes;", true)
  | 4 => ("MajorityIndex", "otherVotes", "LMajorityIndex$Votes;", true)
  | 5 => ("MajorityIndex", "wins", "[I", true)
  | 6 => ("MajorityIndex", "fewest", "[I", true)
  | 7 => ("MajorityIndex", "slotsNow", "I", false)
  | _ => ("MajorityIndex", "treeIsOld", "Z", false)
abbrev cX4_isValue : ByteArray := prog_1_method_46_code
def yX4_isValue : MethodName := ⟨RX4, "isValue", "(I)Z"⟩
abbrev cX4_isShare : ByteArray := prog_1_method_47_code
def yX4_isShare : MethodName := ⟨RX4, "isShare", "(II)Z"⟩
def RX5 : String := "MajorityIndexModel"
def TX5 : u_T := fun k => match k with
  | 0 => ("MajorityIndexModel", "row", "[I", true)
  | 1 => ("MajorityIndexModel", "n", "I", false)
  | 2 => ("MajorityIndexModel", "slots", "I", false)
  | 3 => ("MajorityIndexModel", "thrown", "I", false)
  | 4 => ("MajorityIndexModel", "many", "[I", true)
  | 5 => ("MajorityIndexModel", "loss", "[I", true)
  | 6 => ("MajorityIndexModel", "less", "[I", true)
  | 7 => ("MajorityIndexModel", "voteValue", "[I", true)
  | 8 => ("MajorityIndexModel", "voteNumber", "[I", true)
  | 9 => ("MajorityIndexModel", "allValue", "[I", true)
  | 10 => ("MajorityIndexModel", "allNumber", "[I", true)
  | 11 => ("MajorityIndexModel", "allMany", "I", false)
  | 12 => ("MajorityIndexModel", "nodeL", "[I", true)
  | 13 => ("MajorityIndexModel", "nodeR", "[I", true)
  | 14 => ("MajorityIndexModel", "nodes", "I", false)
  | 15 => ("MajorityIndexModel", "part", "[I", true)
  | 16 => ("MajorityIndexModel", "partMany", "I", false)
  | 17 => ("MajorityIndexModel", "wasMany", "[I", true)
  | 18 => ("MajorityIndexModel", "wasLoss", "[I", true)
  | 19 => ("MajorityIndexModel", "wasValue", "[I", true)
  | 20 => ("MajorityIndexModel", "wasNumber", "[I", true)
  | 21 => ("MajorityIndexModel", "path", "[I", true)
  | 22 => ("MajorityIndexModel", "pathMany", "I", false)
  | 23 => ("MajorityIndexModel", "heavyValue", "[I", true)
  | 24 => ("MajorityIndexModel", "heavyTimes", "[I", true)
  | 25 => ("MajorityIndexModel", "heavyMany", "I", false)
  | 26 => ("MajorityIndexModel", "fewest", "[I", true)
  | 27 => ("MajorityIndexModel", "which", "[I", true)
  | 28 => ("MajorityIndexModel", "met", "[I", true)
  | _ => ("MajorityIndexModel", "mostMet", "I", false)
abbrev cX5_within : ByteArray := prog_7_method_3_code
def yX5_within : MethodName := ⟨RX5, "within", "(III)Z"⟩
abbrev cX5_isValue : ByteArray := prog_7_method_4_code
def yX5_isValue : MethodName := ⟨RX5, "isValue", "(I)Z"⟩
abbrev cX5_isShare : ByteArray := prog_7_method_7_code
def yX5_isShare : MethodName := ⟨RX5, "isShare", "(II)Z"⟩
def wsX0_hasPlace : List Cond := .code yX0_hasPlace cX0_hasPlace 2 (some .boolean) :: ([.fieldLink RX0 15 "MajorityIndex$Row" "length" "I"] ++ wsX00)
def wsX0_hasRange : List Cond := .code yX0_hasRange cX0_hasRange 3 (some .boolean) :: ([.fieldLink RX0 15 "MajorityIndex$Row" "length" "I"] ++ wsX00)
def wsX4_isValue : List Cond := .code yX4_isValue cX4_isValue 1 (some .boolean) :: ([])
def wsX4_isShare : List Cond := .code yX4_isShare cX4_isShare 2 (some .boolean) :: ([])
def wsX5_within : List Cond := .code yX5_within cX5_within 3 (some .boolean) :: ([])
def wsX5_isValue : List Cond := .code yX5_isValue cX5_isValue 1 (some .boolean) :: ([.methodLink RX5 80 yX5_within, .static yX5_within, .initialized RX5, .code yX5_within cX5_within 3 (some .boolean)])
def wsX5_isShare : List Cond := .code yX5_isShare cX5_isShare 2 (some .boolean) :: ([.methodLink RX5 80 yX5_within, .static yX5_within, .initialized RX5, .code yX5_within cX5_within 3 (some .boolean)])
theorem dX0_hasPlace_0 : decode cX0_hasPlace 0 = .ok (.iload_n 1, 1) := by decide +kernel
theorem dX0_hasPlace_1 : decode cX0_hasPlace 1 = .ok (.ifCond .lt 15, 3) := by decide +kernel
theorem dX0_hasPlace_4 : decode cX0_hasPlace 4 = .ok (.iload_n 1, 1) := by decide +kernel
theorem dX0_hasPlace_5 : decode cX0_hasPlace 5 = .ok (.aload_n 0, 1) := by decide +kernel
theorem dX0_hasPlace_6 : decode cX0_hasPlace 6 = .ok (.getfield 15, 3) := by decide +kernel
theorem dX0_hasPlace_9 : decode cX0_hasPlace 9 = .ok (.if_icmp .ge 7, 3) := by decide +kernel
theorem dX0_hasPlace_12 : decode cX0_hasPlace 12 = .ok (.iconst 1, 1) := by decide +kernel
theorem dX0_hasPlace_13 : decode cX0_hasPlace 13 = .ok (.goto 4, 3) := by decide +kernel
theorem dX0_hasPlace_16 : decode cX0_hasPlace 16 = .ok (.iconst 0, 1) := by decide +kernel
theorem dX0_hasPlace_17 : decode cX0_hasPlace 17 = .ok (.ireturn, 1) := by decide +kernel
theorem dX0_hasRange_0 : decode cX0_hasRange 0 = .ok (.iload_n 1, 1) := by decide +kernel
theorem dX0_hasRange_1 : decode cX0_hasRange 1 = .ok (.ifCond .lt 20, 3) := by decide +kernel
theorem dX0_hasRange_4 : decode cX0_hasRange 4 = .ok (.iload_n 1, 1) := by decide +kernel
theorem dX0_hasRange_5 : decode cX0_hasRange 5 = .ok (.iload_n 2, 1) := by decide +kernel
theorem dX0_hasRange_6 : decode cX0_hasRange 6 = .ok (.if_icmp .ge 15, 3) := by decide +kernel
theorem dX0_hasRange_9 : decode cX0_hasRange 9 = .ok (.iload_n 2, 1) := by decide +kernel
theorem dX0_hasRange_10 : decode cX0_hasRange 10 = .ok (.aload_n 0, 1) := by decide +kernel
theorem dX0_hasRange_11 : decode cX0_hasRange 11 = .ok (.getfield 15, 3) := by decide +kernel
theorem dX0_hasRange_14 : decode cX0_hasRange 14 = .ok (.if_icmp .gt 7, 3) := by decide +kernel
theorem dX0_hasRange_17 : decode cX0_hasRange 17 = .ok (.iconst 1, 1) := by decide +kernel
theorem dX0_hasRange_18 : decode cX0_hasRange 18 = .ok (.goto 4, 3) := by decide +kernel
theorem dX0_hasRange_21 : decode cX0_hasRange 21 = .ok (.iconst 0, 1) := by decide +kernel
theorem dX0_hasRange_22 : decode cX0_hasRange 22 = .ok (.ireturn, 1) := by decide +kernel
theorem dX4_isValue_0 : decode cX4_isValue 0 = .ok (.iload_n 0, 1) := by decide +kernel
theorem dX4_isValue_1 : decode cX4_isValue 1 = .ok (.sipush (-32768), 3) := by decide +kernel
theorem dX4_isValue_4 : decode cX4_isValue 4 = .ok (.if_icmp .lt 14, 3) := by decide +kernel
theorem dX4_isValue_7 : decode cX4_isValue 7 = .ok (.iload_n 0, 1) := by decide +kernel
theorem dX4_isValue_8 : decode cX4_isValue 8 = .ok (.sipush 32767, 3) := by decide +kernel
theorem dX4_isValue_11 : decode cX4_isValue 11 = .ok (.if_icmp .gt 7, 3) := by decide +kernel
theorem dX4_isValue_14 : decode cX4_isValue 14 = .ok (.iconst 1, 1) := by decide +kernel
theorem dX4_isValue_15 : decode cX4_isValue 15 = .ok (.goto 4, 3) := by decide +kernel
theorem dX4_isValue_18 : decode cX4_isValue 18 = .ok (.iconst 0, 1) := by decide +kernel
theorem dX4_isValue_19 : decode cX4_isValue 19 = .ok (.ireturn, 1) := by decide +kernel
theorem dX4_isShare_0 : decode cX4_isShare 0 = .ok (.iload_n 0, 1) := by decide +kernel
theorem dX4_isShare_1 : decode cX4_isShare 1 = .ok (.iconst 1, 1) := by decide +kernel
theorem dX4_isShare_2 : decode cX4_isShare 2 = .ok (.if_icmp .lt 19, 3) := by decide +kernel
theorem dX4_isShare_5 : decode cX4_isShare 5 = .ok (.iload_n 1, 1) := by decide +kernel
theorem dX4_isShare_6 : decode cX4_isShare 6 = .ok (.iload_n 0, 1) := by decide +kernel
theorem dX4_isShare_7 : decode cX4_isShare 7 = .ok (.if_icmp .lt 14, 3) := by decide +kernel
theorem dX4_isShare_10 : decode cX4_isShare 10 = .ok (.iload_n 1, 1) := by decide +kernel
theorem dX4_isShare_11 : decode cX4_isShare 11 = .ok (.sipush 999, 3) := by decide +kernel
theorem dX4_isShare_14 : decode cX4_isShare 14 = .ok (.if_icmp .gt 7, 3) := by decide +kernel
theorem dX4_isShare_17 : decode cX4_isShare 17 = .ok (.iconst 1, 1) := by decide +kernel
theorem dX4_isShare_18 : decode cX4_isShare 18 = .ok (.goto 4, 3) := by decide +kernel
theorem dX4_isShare_21 : decode cX4_isShare 21 = .ok (.iconst 0, 1) := by decide +kernel
theorem dX4_isShare_22 : decode cX4_isShare 22 = .ok (.ireturn, 1) := by decide +kernel
theorem dX5_within_0 : decode cX5_within 0 = .ok (.iload_n 0, 1) := by decide +kernel
theorem dX5_within_1 : decode cX5_within 1 = .ok (.iload_n 1, 1) := by decide +kernel
theorem dX5_within_2 : decode cX5_within 2 = .ok (.if_icmp .lt 12, 3) := by decide +kernel
theorem dX5_within_5 : decode cX5_within 5 = .ok (.iload_n 0, 1) := by decide +kernel
theorem dX5_within_6 : decode cX5_within 6 = .ok (.iload_n 2, 1) := by decide +kernel
theorem dX5_within_7 : decode cX5_within 7 = .ok (.if_icmp .gt 7, 3) := by decide +kernel
theorem dX5_within_10 : decode cX5_within 10 = .ok (.iconst 1, 1) := by decide +kernel
theorem dX5_within_11 : decode cX5_within 11 = .ok (.goto 4, 3) := by decide +kernel
theorem dX5_within_14 : decode cX5_within 14 = .ok (.iconst 0, 1) := by decide +kernel
theorem dX5_within_15 : decode cX5_within 15 = .ok (.ireturn, 1) := by decide +kernel
set_option maxRecDepth 20000 in
theorem ggX5_isValue_X5_within : GoodIn wsX5_isValue wsX5_within := goodIn_r _ [4] (by decide +kernel) (by decide +kernel)
set_option maxRecDepth 20000 in
theorem gX5_isValue_X5_within : GoodIn wsX5_isValue (va_wsS RX5 80 yX5_within wsX5_within) := goodIn_app (goodIn_of _ (by decide +kernel)) ggX5_isValue_X5_within
theorem dX5_isValue_0 : decode cX5_isValue 0 = .ok (.iload_n 0, 1) := by decide +kernel
theorem dX5_isValue_1 : decode cX5_isValue 1 = .ok (.sipush (-32768), 3) := by decide +kernel
theorem dX5_isValue_4 : decode cX5_isValue 4 = .ok (.sipush 32767, 3) := by decide +kernel
theorem dX5_isValue_7 : decode cX5_isValue 7 = .ok (.invokestatic 80, 3) := by decide +kernel
theorem dX5_isValue_10 : decode cX5_isValue 10 = .ok (.ireturn, 1) := by decide +kernel
set_option maxRecDepth 20000 in
theorem ggX5_isShare_X5_within : GoodIn wsX5_isShare wsX5_within := goodIn_r _ [4] (by decide +kernel) (by decide +kernel)
set_option maxRecDepth 20000 in
theorem gX5_isShare_X5_within : GoodIn wsX5_isShare (va_wsS RX5 80 yX5_within wsX5_within) := goodIn_app (goodIn_of _ (by decide +kernel)) ggX5_isShare_X5_within
theorem dX5_isShare_0 : decode cX5_isShare 0 = .ok (.iload_n 0, 1) := by decide +kernel
theorem dX5_isShare_1 : decode cX5_isShare 1 = .ok (.iconst 1, 1) := by decide +kernel
theorem dX5_isShare_2 : decode cX5_isShare 2 = .ok (.sipush 999, 3) := by decide +kernel
theorem dX5_isShare_5 : decode cX5_isShare 5 = .ok (.invokestatic 80, 3) := by decide +kernel
theorem dX5_isShare_8 : decode cX5_isShare 8 = .ok (.ifCond .eq 18, 3) := by decide +kernel
theorem dX5_isShare_11 : decode cX5_isShare 11 = .ok (.iload_n 1, 1) := by decide +kernel
theorem dX5_isShare_12 : decode cX5_isShare 12 = .ok (.iload_n 0, 1) := by decide +kernel
theorem dX5_isShare_13 : decode cX5_isShare 13 = .ok (.sipush 999, 3) := by decide +kernel
theorem dX5_isShare_16 : decode cX5_isShare 16 = .ok (.invokestatic 80, 3) := by decide +kernel
theorem dX5_isShare_19 : decode cX5_isShare 19 = .ok (.ifCond .eq 7, 3) := by decide +kernel
theorem dX5_isShare_22 : decode cX5_isShare 22 = .ok (.iconst 1, 1) := by decide +kernel
theorem dX5_isShare_23 : decode cX5_isShare 23 = .ok (.goto 4, 3) := by decide +kernel
theorem dX5_isShare_26 : decode cX5_isShare 26 = .ok (.iconst 0, 1) := by decide +kernel
theorem dX5_isShare_27 : decode cX5_isShare 27 = .ok (.ireturn, 1) := by decide +kernel
abbrev vwCl : List vw_C := [(RX0, TX0, 2), (RX1, TX1, 4), (RX2, TX2, 11), (RX3, TX3, 5), (RX4, TX4, 9), (RX5, TX5, 30)]
