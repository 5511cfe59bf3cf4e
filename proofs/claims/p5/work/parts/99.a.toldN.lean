abbrev cX5_reach : ByteArray := prog_7_method_66_code
def yX5_reach : MethodName := ⟨RX5, "reach", "(I)I"⟩
abbrev cX5_spares : ByteArray := prog_7_method_77_code
def yX5_spares : MethodName := ⟨RX5, "spares", "(IIIII)I"⟩
abbrev cX5_swings : ByteArray := prog_7_method_79_code
def yX5_swings : MethodName := ⟨RX5, "swings", "(IIII)I"⟩
abbrev cX5_deep : ByteArray := prog_7_method_80_code
def yX5_deep : MethodName := ⟨RX5, "deep", "(II)I"⟩
abbrev cX5_nodesWithMajority : ByteArray := prog_7_method_81_code
def yX5_nodesWithMajority : MethodName := ⟨RX5, "nodesWithMajority", "()I"⟩
abbrev cX5_told : ByteArray := prog_7_method_82_code
def yX5_told : MethodName := ⟨RX5, "told", "(I)I"⟩
def wsX5_reach : List Cond := .code yX5_reach cX5_reach 3 (some .int) :: ([.fieldLink RX5 77 "MajorityIndexModel" "thrown" "I", .fieldLink RX5 84 "MajorityIndexModel" "n" "I", .constant RX5 148 (-40000), .methodLink RX5 128 yX5_isPlace, .instanceMethod yX5_isPlace, .selects RX5 yX5_isPlace yX5_isPlace, .initialized RX5, .code yX5_isPlace cX5_isPlace 2 (some .boolean), .methodLink RX5 80 yX5_within, .static yX5_within, .code yX5_within cX5_within 3 (some .boolean), .methodLink RX5 194 yX5_majorityOf, .instanceMethod yX5_majorityOf, .selects RX5 yX5_majorityOf yX5_majorityOf, .code yX5_majorityOf cX5_majorityOf 4 (some .int), .fieldLink RX5 7 "MajorityIndexModel" "row" "[I", .methodLink RX5 149 yX5_times, .instanceMethod yX5_times, .selects RX5 yX5_times yX5_times, .code yX5_times cX5_times 6 (some .int)] ++ wsX50)
def wsX5_spares : List Cond := .code yX5_spares cX5_spares 8 (some .int) :: ([.fieldLink RX5 77 "MajorityIndexModel" "thrown" "I", .methodLink RX5 132 yX5_isValue, .static yX5_isValue, .initialized RX5, .code yX5_isValue cX5_isValue 1 (some .boolean), .methodLink RX5 80 yX5_within, .static yX5_within, .code yX5_within cX5_within 3 (some .boolean), .methodLink RX5 142 yX5_isRange, .instanceMethod yX5_isRange, .selects RX5 yX5_isRange yX5_isRange, .code yX5_isRange cX5_isRange 3 (some .boolean), .fieldLink RX5 84 "MajorityIndexModel" "n" "I", .methodLink RX5 184 yX5_isShare, .static yX5_isShare, .code yX5_isShare cX5_isShare 2 (some .boolean), .methodLink RX5 149 yX5_times, .instanceMethod yX5_times, .selects RX5 yX5_times yX5_times, .code yX5_times cX5_times 6 (some .int), .fieldLink RX5 7 "MajorityIndexModel" "row" "[I"] ++ wsX50)
def wsX5_swings_r1 : List Cond := [Cond.fieldLink RX5 77 "MajorityIndexModel" "thrown" "I", Cond.fieldLink RX5 7 "MajorityIndexModel" "row" "[I", Cond.fieldLink RX5 13 "MajorityIndexModel" "slots" "I", Cond.methodLink RX5 142 yX5_isRange, Cond.instanceMethod yX5_isRange, Cond.selects RX5 yX5_isRange yX5_isRange, Cond.initialized RX5, Cond.code yX5_isRange cX5_isRange 3 (some .boolean), Cond.fieldLink RX5 84 "MajorityIndexModel" "n" "I", Cond.methodLink RX5 132 yX5_isValue, Cond.static yX5_isValue, Cond.code yX5_isValue cX5_isValue 1 (some .boolean), Cond.methodLink RX5 80 yX5_within, Cond.static yX5_within, Cond.code yX5_within cX5_within 3 (some .boolean), Cond.methodLink RX5 124 yX5_laysAll, Cond.instanceMethod yX5_laysAll, Cond.selects RX5 yX5_laysAll yX5_laysAll, Cond.code yX5_laysAll cX5_laysAll 2 none, Cond.fieldLink RX5 101 "MajorityIndexModel" "nodes" "I", Cond.methodLink RX5 107 yX5_lays, Cond.instanceMethod yX5_lays, Cond.selects RX5 yX5_lays yX5_lays, Cond.code yX5_lays cX5_lays 8 (some .int)]
def wsX5_swings_r2 : List Cond := [Cond.fieldLink RX5 38 "MajorityIndexModel" "nodeL" "[I", Cond.fieldLink RX5 41 "MajorityIndexModel" "nodeR" "[I", Cond.methodLink RX5 104 yX5_one, Cond.instanceMethod yX5_one, Cond.selects RX5 yX5_one yX5_one, Cond.code yX5_one cX5_one 3 none, Cond.fieldLink RX5 17 "MajorityIndexModel" "many" "[I", Cond.fieldLink RX5 20 "MajorityIndexModel" "loss" "[I", Cond.fieldLink RX5 23 "MajorityIndexModel" "less" "[I", Cond.fieldLink RX5 26 "MajorityIndexModel" "voteValue" "[I", Cond.fieldLink RX5 29 "MajorityIndexModel" "voteNumber" "[I", Cond.methodLink RX5 111 yX5_together, Cond.instanceMethod yX5_together, Cond.selects RX5 yX5_together yX5_together, Cond.code yX5_together cX5_together 9 none, Cond.fieldLink RX5 87 "MajorityIndexModel" "allMany" "I", Cond.fieldLink RX5 35 "MajorityIndexModel" "allNumber" "[I", Cond.fieldLink RX5 32 "MajorityIndexModel" "allValue" "[I", Cond.methodLink RX5 94 yX5_adds, Cond.instanceMethod yX5_adds, Cond.selects RX5 yX5_adds yX5_adds, Cond.code yX5_adds cX5_adds 4 none, Cond.methodLink RX5 98 yX5_sorts, Cond.instanceMethod yX5_sorts]
def wsX5_swings_r3 : List Cond := [Cond.selects RX5 yX5_sorts yX5_sorts, Cond.code yX5_sorts cX5_sorts 4 none, Cond.methodLink RX5 90 yX5_isAhead, Cond.instanceMethod yX5_isAhead, Cond.selects RX5 yX5_isAhead yX5_isAhead, Cond.code yX5_isAhead cX5_isAhead 3 (some .boolean), Cond.methodLink RX5 174 yX5_numbersOf, Cond.instanceMethod yX5_numbersOf, Cond.selects RX5 yX5_numbersOf yX5_numbersOf, Cond.code yX5_numbersOf cX5_numbersOf 4 (some .int)]
def wsX5_swings : List Cond := .code yX5_swings cX5_swings 10 (some .int) :: ((wsX5_swings_r1 ++ (wsX5_swings_r2 ++ wsX5_swings_r3)) ++ wsX50)
def wsX5_deep : List Cond := .code yX5_deep cX5_deep 6 (some .int) :: ([.methodLink RX5 220 yX5_deep, .instanceMethod yX5_deep, .selects RX5 yX5_deep yX5_deep, .initialized RX5])
def wsX5_nodesWithMajority : List Cond := .code yX5_nodesWithMajority cX5_nodesWithMajority 3 (some .int) :: ([.fieldLink RX5 101 "MajorityIndexModel" "nodes" "I", .fieldLink RX5 38 "MajorityIndexModel" "nodeL" "[I", .fieldLink RX5 41 "MajorityIndexModel" "nodeR" "[I", .constant RX5 148 (-40000), .methodLink RX5 194 yX5_majorityOf, .instanceMethod yX5_majorityOf, .selects RX5 yX5_majorityOf yX5_majorityOf, .initialized RX5, .code yX5_majorityOf cX5_majorityOf 4 (some .int), .fieldLink RX5 7 "MajorityIndexModel" "row" "[I", .methodLink RX5 149 yX5_times, .instanceMethod yX5_times, .selects RX5 yX5_times yX5_times, .code yX5_times cX5_times 6 (some .int)] ++ wsX50)
def wsX5_told_r1 : List Cond := [Cond.fieldLink RX5 77 "MajorityIndexModel" "thrown" "I", Cond.fieldLink RX5 13 "MajorityIndexModel" "slots" "I", Cond.fieldLink RX5 84 "MajorityIndexModel" "n" "I", Cond.fieldLink RX5 101 "MajorityIndexModel" "nodes" "I", Cond.fieldLink RX5 20 "MajorityIndexModel" "loss" "[I", Cond.methodLink RX5 124 yX5_laysAll, Cond.instanceMethod yX5_laysAll, Cond.selects RX5 yX5_laysAll yX5_laysAll, Cond.initialized RX5, Cond.code yX5_laysAll cX5_laysAll 2 none, Cond.methodLink RX5 107 yX5_lays, Cond.instanceMethod yX5_lays, Cond.selects RX5 yX5_lays yX5_lays, Cond.code yX5_lays cX5_lays 8 (some .int), Cond.fieldLink RX5 38 "MajorityIndexModel" "nodeL" "[I", Cond.fieldLink RX5 41 "MajorityIndexModel" "nodeR" "[I", Cond.fieldLink RX5 7 "MajorityIndexModel" "row" "[I", Cond.methodLink RX5 104 yX5_one, Cond.instanceMethod yX5_one, Cond.selects RX5 yX5_one yX5_one, Cond.code yX5_one cX5_one 3 none, Cond.fieldLink RX5 17 "MajorityIndexModel" "many" "[I", Cond.fieldLink RX5 23 "MajorityIndexModel" "less" "[I", Cond.fieldLink RX5 26 "MajorityIndexModel" "voteValue" "[I"]
def wsX5_told_r2 : List Cond := [Cond.fieldLink RX5 29 "MajorityIndexModel" "voteNumber" "[I", Cond.methodLink RX5 111 yX5_together, Cond.instanceMethod yX5_together, Cond.selects RX5 yX5_together yX5_together, Cond.code yX5_together cX5_together 9 none, Cond.fieldLink RX5 87 "MajorityIndexModel" "allMany" "I", Cond.fieldLink RX5 35 "MajorityIndexModel" "allNumber" "[I", Cond.fieldLink RX5 32 "MajorityIndexModel" "allValue" "[I", Cond.methodLink RX5 94 yX5_adds, Cond.instanceMethod yX5_adds, Cond.selects RX5 yX5_adds yX5_adds, Cond.code yX5_adds cX5_adds 4 none, Cond.methodLink RX5 98 yX5_sorts, Cond.instanceMethod yX5_sorts, Cond.selects RX5 yX5_sorts yX5_sorts, Cond.code yX5_sorts cX5_sorts 4 none, Cond.methodLink RX5 90 yX5_isAhead, Cond.instanceMethod yX5_isAhead, Cond.selects RX5 yX5_isAhead yX5_isAhead, Cond.code yX5_isAhead cX5_isAhead 3 (some .boolean), Cond.methodLink RX5 223 yX5_nodesWithMajority, Cond.instanceMethod yX5_nodesWithMajority, Cond.selects RX5 yX5_nodesWithMajority yX5_nodesWithMajority, Cond.code yX5_nodesWithMajority cX5_nodesWithMajority 3 (some .int)]
def wsX5_told_r3 : List Cond := [Cond.constant RX5 148 (-40000), Cond.methodLink RX5 194 yX5_majorityOf, Cond.instanceMethod yX5_majorityOf, Cond.selects RX5 yX5_majorityOf yX5_majorityOf, Cond.code yX5_majorityOf cX5_majorityOf 4 (some .int), Cond.methodLink RX5 149 yX5_times, Cond.instanceMethod yX5_times, Cond.selects RX5 yX5_times yX5_times, Cond.code yX5_times cX5_times 6 (some .int), Cond.methodLink RX5 220 yX5_deep, Cond.instanceMethod yX5_deep, Cond.selects RX5 yX5_deep yX5_deep, Cond.code yX5_deep cX5_deep 6 (some .int)]
def wsX5_told : List Cond := .code yX5_told cX5_told 4 (some .int) :: ((wsX5_told_r1 ++ (wsX5_told_r2 ++ wsX5_told_r3)) ++ wsX50)
set_option maxRecDepth 20000 in
theorem ggX5_reach_X5_isPlace : GoodIn wsX5_reach wsX5_isPlace := goodIn_r _ [8, 2, 9, 10, 7, 11, 21, 22, 23, 24, 25, 26, 27, 28, 29, 30, 31, 32, 33, 34, 35, 36, 37, 38, 39, 40, 41, 42, 43, 44, 45, 46, 47, 48, 49, 50] rfl (by decide +kernel)
set_option maxRecDepth 20000 in
theorem gX5_reach_X5_isPlace : GoodIn wsX5_reach (wsV RX5 128 RX5 yX5_isPlace wsX5_isPlace) := goodIn_app (goodIn_r _ [4, 5, 6, 7] rfl (by decide +kernel)) ggX5_reach_X5_isPlace
set_option maxRecDepth 20000 in
theorem ggX5_reach_X5_majorityOf : GoodIn wsX5_reach wsX5_majorityOf := goodIn_r _ [15, 16, 3, 17, 18, 19, 7, 20, 21, 22, 23, 24, 25, 26, 27, 28, 29, 30, 31, 32, 33, 34, 35, 36, 37, 38, 39, 40, 41, 42, 43, 44, 45, 46, 47, 48, 49, 50] rfl (by decide +kernel)
set_option maxRecDepth 20000 in
theorem gX5_reach_X5_majorityOf : GoodIn wsX5_reach (wsV RX5 194 RX5 yX5_majorityOf wsX5_majorityOf) := goodIn_app (goodIn_r _ [12, 13, 14, 7] rfl (by decide +kernel)) ggX5_reach_X5_majorityOf
def dt_cX5_reach_0 : List (Nat × Instr × Nat) := [(0, .aload_n 0, 1), (1, .iconst 0, 1), (2, .putfield 77, 3), (5, .aload_n 0, 1), (6, .iload_n 1, 1), (7, .invokevirtual 128, 3), (10, .ifCond .ne 5, 3), (13, .iconst (-1), 1), (14, .ireturn, 1), (15, .aload_n 0, 1), (16, .getfield 84, 3), (19, .istore_n 2, 1), (20, .aload_n 0, 1), (21, .iload_n 1, 1), (22, .iload_n 2, 1), (23, .invokevirtual 194, 3), (26, .ldc 148, 2), (28, .if_icmp .ne 9, 3), (31, .iinc 2 (-1), 3), (34, .goto (-14), 3), (37, .iload_n 2, 1), (38, .ireturn, 1)]
theorem da_cX5_reach_0 : dk_all cX5_reach dt_cX5_reach_0 = true := by decide +kernel
theorem dX5_reach_0 : decode cX5_reach 0 = .ok (.aload_n 0, 1) := dk_get _ da_cX5_reach_0 0 _ _ _ rfl
theorem dX5_reach_1 : decode cX5_reach 1 = .ok (.iconst 0, 1) := dk_get _ da_cX5_reach_0 1 _ _ _ rfl
theorem dX5_reach_2 : decode cX5_reach 2 = .ok (.putfield 77, 3) := dk_get _ da_cX5_reach_0 2 _ _ _ rfl
theorem dX5_reach_5 : decode cX5_reach 5 = .ok (.aload_n 0, 1) := dk_get _ da_cX5_reach_0 3 _ _ _ rfl
theorem dX5_reach_6 : decode cX5_reach 6 = .ok (.iload_n 1, 1) := dk_get _ da_cX5_reach_0 4 _ _ _ rfl
theorem dX5_reach_7 : decode cX5_reach 7 = .ok (.invokevirtual 128, 3) := dk_get _ da_cX5_reach_0 5 _ _ _ rfl
theorem dX5_reach_10 : decode cX5_reach 10 = .ok (.ifCond .ne 5, 3) := dk_get _ da_cX5_reach_0 6 _ _ _ rfl
theorem dX5_reach_13 : decode cX5_reach 13 = .ok (.iconst (-1), 1) := dk_get _ da_cX5_reach_0 7 _ _ _ rfl
theorem dX5_reach_14 : decode cX5_reach 14 = .ok (.ireturn, 1) := dk_get _ da_cX5_reach_0 8 _ _ _ rfl
theorem dX5_reach_15 : decode cX5_reach 15 = .ok (.aload_n 0, 1) := dk_get _ da_cX5_reach_0 9 _ _ _ rfl
theorem dX5_reach_16 : decode cX5_reach 16 = .ok (.getfield 84, 3) := dk_get _ da_cX5_reach_0 10 _ _ _ rfl
theorem dX5_reach_19 : decode cX5_reach 19 = .ok (.istore_n 2, 1) := dk_get _ da_cX5_reach_0 11 _ _ _ rfl
theorem dX5_reach_20 : decode cX5_reach 20 = .ok (.aload_n 0, 1) := dk_get _ da_cX5_reach_0 12 _ _ _ rfl
theorem dX5_reach_21 : decode cX5_reach 21 = .ok (.iload_n 1, 1) := dk_get _ da_cX5_reach_0 13 _ _ _ rfl
theorem dX5_reach_22 : decode cX5_reach 22 = .ok (.iload_n 2, 1) := dk_get _ da_cX5_reach_0 14 _ _ _ rfl
theorem dX5_reach_23 : decode cX5_reach 23 = .ok (.invokevirtual 194, 3) := dk_get _ da_cX5_reach_0 15 _ _ _ rfl
theorem dX5_reach_26 : decode cX5_reach 26 = .ok (.ldc 148, 2) := dk_get _ da_cX5_reach_0 16 _ _ _ rfl
theorem dX5_reach_28 : decode cX5_reach 28 = .ok (.if_icmp .ne 9, 3) := dk_get _ da_cX5_reach_0 17 _ _ _ rfl
theorem dX5_reach_31 : decode cX5_reach 31 = .ok (.iinc 2 (-1), 3) := dk_get _ da_cX5_reach_0 18 _ _ _ rfl
theorem dX5_reach_34 : decode cX5_reach 34 = .ok (.goto (-14), 3) := dk_get _ da_cX5_reach_0 19 _ _ _ rfl
theorem dX5_reach_37 : decode cX5_reach 37 = .ok (.iload_n 2, 1) := dk_get _ da_cX5_reach_0 20 _ _ _ rfl
theorem dX5_reach_38 : decode cX5_reach 38 = .ok (.ireturn, 1) := dk_get _ da_cX5_reach_0 21 _ _ _ rfl
set_option maxRecDepth 20000 in
theorem ggX5_spares_X5_isValue : GoodIn wsX5_spares wsX5_isValue := goodIn_r _ [5, 6, 7, 4, 8] rfl (by decide +kernel)
set_option maxRecDepth 20000 in
theorem gX5_spares_X5_isValue : GoodIn wsX5_spares (va_wsS RX5 132 yX5_isValue wsX5_isValue) := goodIn_app (goodIn_r _ [2, 3, 4] rfl (by decide +kernel)) ggX5_spares_X5_isValue
set_option maxRecDepth 20000 in
theorem ggX5_spares_X5_isRange : GoodIn wsX5_spares wsX5_isRange := goodIn_r _ [12, 13, 22, 23, 24, 25, 26, 27, 28, 29, 30, 31, 32, 33, 34, 35, 36, 37, 38, 39, 40, 41, 42, 43, 44, 45, 46, 47, 48, 49, 50, 51] rfl (by decide +kernel)
set_option maxRecDepth 20000 in
theorem gX5_spares_X5_isRange : GoodIn wsX5_spares (wsV RX5 142 RX5 yX5_isRange wsX5_isRange) := goodIn_app (goodIn_r _ [9, 10, 11, 4] rfl (by decide +kernel)) ggX5_spares_X5_isRange
set_option maxRecDepth 20000 in
theorem ggX5_spares_X5_isShare : GoodIn wsX5_spares wsX5_isShare := goodIn_r _ [16, 6, 7, 4, 8] rfl (by decide +kernel)
set_option maxRecDepth 20000 in
theorem gX5_spares_X5_isShare : GoodIn wsX5_spares (va_wsS RX5 184 yX5_isShare wsX5_isShare) := goodIn_app (goodIn_r _ [14, 15, 4] rfl (by decide +kernel)) ggX5_spares_X5_isShare
set_option maxRecDepth 20000 in
theorem ggX5_spares_X5_times : GoodIn wsX5_spares wsX5_times := goodIn_r _ [20, 21, 22, 23, 24, 25, 26, 27, 28, 29, 30, 31, 32, 33, 34, 35, 36, 37, 38, 39, 40, 41, 42, 43, 44, 45, 46, 47, 48, 49, 50, 51] rfl (by decide +kernel)
set_option maxRecDepth 20000 in
theorem gX5_spares_X5_times : GoodIn wsX5_spares (wsV RX5 149 RX5 yX5_times wsX5_times) := goodIn_app (goodIn_r _ [17, 18, 19, 4] rfl (by decide +kernel)) ggX5_spares_X5_times
def dt_cX5_spares_0 : List (Nat × Instr × Nat) := [(0, .aload_n 0, 1), (1, .iconst 0, 1), (2, .putfield 77, 3), (5, .iload_n 1, 1), (6, .invokestatic 132, 3), (9, .ifCond .eq 22, 3), (12, .aload_n 0, 1), (13, .iload_n 2, 1), (14, .iload_n 3, 1), (15, .invokevirtual 142, 3), (18, .ifCond .eq 13, 3), (21, .iload 4, 2), (23, .iload 5, 2), (25, .invokestatic 184, 3), (28, .ifCond .ne 5, 3), (31, .iconst (-1), 1), (32, .ireturn, 1), (33, .aload_n 0, 1), (34, .iload_n 1, 1), (35, .iload_n 2, 1), (36, .iload_n 3, 1), (37, .invokevirtual 149, 3), (40, .istore 6, 2), (42, .iconst 0, 1), (43, .istore 7, 2), (45, .iload 6, 2), (47, .iload 7, 2), (49, .isub, 1), (50, .iload 5, 2), (52, .imul, 1), (53, .iload 4, 2), (55, .iload_n 3, 1), (56, .iload_n 2, 1), (57, .isub, 1), (58, .imul, 1), (59, .if_icmp .le 9, 3), (62, .iinc 7 1, 3), (65, .goto (-20), 3), (68, .iload 7, 2), (70, .ireturn, 1)]
theorem da_cX5_spares_0 : dk_all cX5_spares dt_cX5_spares_0 = true := by decide +kernel
theorem dX5_spares_0 : decode cX5_spares 0 = .ok (.aload_n 0, 1) := dk_get _ da_cX5_spares_0 0 _ _ _ rfl
theorem dX5_spares_1 : decode cX5_spares 1 = .ok (.iconst 0, 1) := dk_get _ da_cX5_spares_0 1 _ _ _ rfl
theorem dX5_spares_2 : decode cX5_spares 2 = .ok (.putfield 77, 3) := dk_get _ da_cX5_spares_0 2 _ _ _ rfl
theorem dX5_spares_5 : decode cX5_spares 5 = .ok (.iload_n 1, 1) := dk_get _ da_cX5_spares_0 3 _ _ _ rfl
theorem dX5_spares_6 : decode cX5_spares 6 = .ok (.invokestatic 132, 3) := dk_get _ da_cX5_spares_0 4 _ _ _ rfl
theorem dX5_spares_9 : decode cX5_spares 9 = .ok (.ifCond .eq 22, 3) := dk_get _ da_cX5_spares_0 5 _ _ _ rfl
theorem dX5_spares_12 : decode cX5_spares 12 = .ok (.aload_n 0, 1) := dk_get _ da_cX5_spares_0 6 _ _ _ rfl
theorem dX5_spares_13 : decode cX5_spares 13 = .ok (.iload_n 2, 1) := dk_get _ da_cX5_spares_0 7 _ _ _ rfl
theorem dX5_spares_14 : decode cX5_spares 14 = .ok (.iload_n 3, 1) := dk_get _ da_cX5_spares_0 8 _ _ _ rfl
theorem dX5_spares_15 : decode cX5_spares 15 = .ok (.invokevirtual 142, 3) := dk_get _ da_cX5_spares_0 9 _ _ _ rfl
theorem dX5_spares_18 : decode cX5_spares 18 = .ok (.ifCond .eq 13, 3) := dk_get _ da_cX5_spares_0 10 _ _ _ rfl
theorem dX5_spares_21 : decode cX5_spares 21 = .ok (.iload 4, 2) := dk_get _ da_cX5_spares_0 11 _ _ _ rfl
theorem dX5_spares_23 : decode cX5_spares 23 = .ok (.iload 5, 2) := dk_get _ da_cX5_spares_0 12 _ _ _ rfl
theorem dX5_spares_25 : decode cX5_spares 25 = .ok (.invokestatic 184, 3) := dk_get _ da_cX5_spares_0 13 _ _ _ rfl
theorem dX5_spares_28 : decode cX5_spares 28 = .ok (.ifCond .ne 5, 3) := dk_get _ da_cX5_spares_0 14 _ _ _ rfl
theorem dX5_spares_31 : decode cX5_spares 31 = .ok (.iconst (-1), 1) := dk_get _ da_cX5_spares_0 15 _ _ _ rfl
theorem dX5_spares_32 : decode cX5_spares 32 = .ok (.ireturn, 1) := dk_get _ da_cX5_spares_0 16 _ _ _ rfl
theorem dX5_spares_33 : decode cX5_spares 33 = .ok (.aload_n 0, 1) := dk_get _ da_cX5_spares_0 17 _ _ _ rfl
theorem dX5_spares_34 : decode cX5_spares 34 = .ok (.iload_n 1, 1) := dk_get _ da_cX5_spares_0 18 _ _ _ rfl
theorem dX5_spares_35 : decode cX5_spares 35 = .ok (.iload_n 2, 1) := dk_get _ da_cX5_spares_0 19 _ _ _ rfl
theorem dX5_spares_36 : decode cX5_spares 36 = .ok (.iload_n 3, 1) := dk_get _ da_cX5_spares_0 20 _ _ _ rfl
theorem dX5_spares_37 : decode cX5_spares 37 = .ok (.invokevirtual 149, 3) := dk_get _ da_cX5_spares_0 21 _ _ _ rfl
theorem dX5_spares_40 : decode cX5_spares 40 = .ok (.istore 6, 2) := dk_get _ da_cX5_spares_0 22 _ _ _ rfl
theorem dX5_spares_42 : decode cX5_spares 42 = .ok (.iconst 0, 1) := dk_get _ da_cX5_spares_0 23 _ _ _ rfl
theorem dX5_spares_43 : decode cX5_spares 43 = .ok (.istore 7, 2) := dk_get _ da_cX5_spares_0 24 _ _ _ rfl
theorem dX5_spares_45 : decode cX5_spares 45 = .ok (.iload 6, 2) := dk_get _ da_cX5_spares_0 25 _ _ _ rfl
theorem dX5_spares_47 : decode cX5_spares 47 = .ok (.iload 7, 2) := dk_get _ da_cX5_spares_0 26 _ _ _ rfl
theorem dX5_spares_49 : decode cX5_spares 49 = .ok (.isub, 1) := dk_get _ da_cX5_spares_0 27 _ _ _ rfl
theorem dX5_spares_50 : decode cX5_spares 50 = .ok (.iload 5, 2) := dk_get _ da_cX5_spares_0 28 _ _ _ rfl
theorem dX5_spares_52 : decode cX5_spares 52 = .ok (.imul, 1) := dk_get _ da_cX5_spares_0 29 _ _ _ rfl
theorem dX5_spares_53 : decode cX5_spares 53 = .ok (.iload 4, 2) := dk_get _ da_cX5_spares_0 30 _ _ _ rfl
theorem dX5_spares_55 : decode cX5_spares 55 = .ok (.iload_n 3, 1) := dk_get _ da_cX5_spares_0 31 _ _ _ rfl
theorem dX5_spares_56 : decode cX5_spares 56 = .ok (.iload_n 2, 1) := dk_get _ da_cX5_spares_0 32 _ _ _ rfl
theorem dX5_spares_57 : decode cX5_spares 57 = .ok (.isub, 1) := dk_get _ da_cX5_spares_0 33 _ _ _ rfl
theorem dX5_spares_58 : decode cX5_spares 58 = .ok (.imul, 1) := dk_get _ da_cX5_spares_0 34 _ _ _ rfl
theorem dX5_spares_59 : decode cX5_spares 59 = .ok (.if_icmp .le 9, 3) := dk_get _ da_cX5_spares_0 35 _ _ _ rfl
theorem dX5_spares_62 : decode cX5_spares 62 = .ok (.iinc 7 1, 3) := dk_get _ da_cX5_spares_0 36 _ _ _ rfl
theorem dX5_spares_65 : decode cX5_spares 65 = .ok (.goto (-20), 3) := dk_get _ da_cX5_spares_0 37 _ _ _ rfl
theorem dX5_spares_68 : decode cX5_spares 68 = .ok (.iload 7, 2) := dk_get _ da_cX5_spares_0 38 _ _ _ rfl
theorem dX5_spares_70 : decode cX5_spares 70 = .ok (.ireturn, 1) := dk_get _ da_cX5_spares_0 39 _ _ _ rfl
theorem mi_wsX5_swings_wsX5_swings_r1 : ∀ w ∈ wsX5_swings_r1, w ∈ wsX5_swings := fun _ h => (List.mem_cons_of_mem _ (List.mem_append_left _ (List.mem_append_left _ h)))
theorem mi_wsX5_swings_wsX50 : ∀ w ∈ wsX50, w ∈ wsX5_swings := fun _ h => (List.mem_cons_of_mem _ (List.mem_append_right _ h))
set_option maxRecDepth 20000 in
theorem ggX5_swings_X5_isRange : GoodIn wsX5_swings wsX5_isRange := goodIn_k _ [(wsX5_swings_r1, [7, 8]), (wsX50, [0, 1, 2, 3, 4, 5, 6, 7, 8, 9, 10, 11, 12, 13, 14, 15, 16, 17, 18, 19, 20, 21, 22, 23, 24, 25, 26, 27, 28, 29])] (gk_c mi_wsX5_swings_wsX5_swings_r1 (gk_c mi_wsX5_swings_wsX50 gk_n)) rfl (by decide +kernel)
set_option maxRecDepth 20000 in
theorem gX5_swings_X5_isRange : GoodIn wsX5_swings (wsV RX5 142 RX5 yX5_isRange wsX5_isRange) := goodIn_app (goodIn_k _ [(wsX5_swings_r1, [3, 4, 5, 6])] (gk_c mi_wsX5_swings_wsX5_swings_r1 gk_n) rfl (by decide +kernel)) ggX5_swings_X5_isRange
set_option maxRecDepth 20000 in
theorem ggX5_swings_X5_isValue : GoodIn wsX5_swings wsX5_isValue := goodIn_k _ [(wsX5_swings_r1, [11, 12, 13, 6, 14])] (gk_c mi_wsX5_swings_wsX5_swings_r1 gk_n) rfl (by decide +kernel)
set_option maxRecDepth 20000 in
theorem gX5_swings_X5_isValue : GoodIn wsX5_swings (va_wsS RX5 132 yX5_isValue wsX5_isValue) := goodIn_app (goodIn_k _ [(wsX5_swings_r1, [9, 10, 6])] (gk_c mi_wsX5_swings_wsX5_swings_r1 gk_n) rfl (by decide +kernel)) ggX5_swings_X5_isValue
set_option maxRecDepth 20000 in
theorem ggX5_swings_X5_within : GoodIn wsX5_swings wsX5_within := goodIn_k _ [(wsX5_swings_r1, [14])] (gk_c mi_wsX5_swings_wsX5_swings_r1 gk_n) rfl (by decide +kernel)
set_option maxRecDepth 20000 in
theorem gX5_swings_X5_within : GoodIn wsX5_swings (va_wsS RX5 80 yX5_within wsX5_within) := goodIn_app (goodIn_k _ [(wsX5_swings_r1, [12, 13, 6])] (gk_c mi_wsX5_swings_wsX5_swings_r1 gk_n) rfl (by decide +kernel)) ggX5_swings_X5_within
theorem mi_wsX5_swings_wsX5_swings_r2 : ∀ w ∈ wsX5_swings_r2, w ∈ wsX5_swings := fun _ h => (List.mem_cons_of_mem _ (List.mem_append_left _ (List.mem_append_right _ (List.mem_append_left _ h))))
theorem mi_wsX5_swings_wsX5_swings_r3 : ∀ w ∈ wsX5_swings_r3, w ∈ wsX5_swings := fun _ h => (List.mem_cons_of_mem _ (List.mem_append_left _ (List.mem_append_right _ (List.mem_append_right _ h))))
set_option maxRecDepth 20000 in
theorem ggX5_swings_X5_laysAll : GoodIn wsX5_swings wsX5_laysAll := goodIn_k _ [(wsX5_swings_r1, [18, 19, 8, 20, 21, 22, 6, 23]), (wsX5_swings_r2, [0, 1]), (wsX5_swings_r1, [1]), (wsX5_swings_r2, [2, 3, 4, 5, 6, 7, 8, 9, 10, 11, 12, 13, 14, 15, 16, 17, 18, 19, 20, 21, 22, 23]), (wsX5_swings_r3, [0, 1, 2, 3, 4, 5]), (wsX50, [0, 1, 2, 3, 4, 5, 6, 7, 8, 9, 10, 11, 12, 13, 14, 15, 16, 17, 18, 19, 20, 21, 22, 23, 24, 25, 26, 27, 28, 29])] (gk_c mi_wsX5_swings_wsX5_swings_r1 (gk_c mi_wsX5_swings_wsX5_swings_r2 (gk_c mi_wsX5_swings_wsX5_swings_r1 (gk_c mi_wsX5_swings_wsX5_swings_r2 (gk_c mi_wsX5_swings_wsX5_swings_r3 (gk_c mi_wsX5_swings_wsX50 gk_n)))))) rfl (by decide +kernel)
set_option maxRecDepth 20000 in
theorem gX5_swings_X5_laysAll : GoodIn wsX5_swings (wsV RX5 124 RX5 yX5_laysAll wsX5_laysAll) := goodIn_app (goodIn_k _ [(wsX5_swings_r1, [15, 16, 17, 6])] (gk_c mi_wsX5_swings_wsX5_swings_r1 gk_n) rfl (by decide +kernel)) ggX5_swings_X5_laysAll
set_option maxRecDepth 20000 in
theorem ggX5_swings_X5_numbersOf : GoodIn wsX5_swings wsX5_numbersOf := goodIn_k _ [(wsX5_swings_r3, [9]), (wsX5_swings_r2, [6, 10]), (wsX50, [0, 1, 2, 3, 4, 5, 6, 7, 8, 9, 10, 11, 12, 13, 14, 15, 16, 17, 18, 19, 20, 21, 22, 23, 24, 25, 26, 27, 28, 29])] (gk_c mi_wsX5_swings_wsX5_swings_r3 (gk_c mi_wsX5_swings_wsX5_swings_r2 (gk_c mi_wsX5_swings_wsX50 gk_n))) rfl (by decide +kernel)
set_option maxRecDepth 20000 in
theorem gX5_swings_X5_numbersOf : GoodIn wsX5_swings (wsV RX5 174 RX5 yX5_numbersOf wsX5_numbersOf) := goodIn_app (goodIn_k _ [(wsX5_swings_r3, [6, 7, 8]), (wsX5_swings_r1, [6])] (gk_c mi_wsX5_swings_wsX5_swings_r3 (gk_c mi_wsX5_swings_wsX5_swings_r1 gk_n)) rfl (by decide +kernel)) ggX5_swings_X5_numbersOf
def dt_cX5_swings_0 : List (Nat × Instr × Nat) := [(0, .aload_n 0, 1), (1, .iconst 0, 1), (2, .putfield 77, 3), (5, .aload_n 0, 1), (6, .iload_n 1, 1), (7, .iload_n 2, 1), (8, .invokevirtual 142, 3), (11, .ifCond .eq 28, 3), (14, .iload_n 2, 1), (15, .iload_n 1, 1), (16, .isub, 1), (17, .bipush 40, 2), (19, .if_icmp .gt 20, 3), (22, .iload_n 3, 1), (23, .invokestatic 132, 3), (26, .ifCond .eq 13, 3), (29, .iload 4, 2), (31, .iconst 0, 1), (32, .iconst 1, 1), (33, .invokestatic 80, 3), (36, .ifCond .ne 5, 3), (39, .iconst (-1), 1), (40, .ireturn, 1), (41, .iconst (-1), 1), (42, .istore 5, 2), (44, .iconst (-1), 1), (45, .istore 6, 2), (47, .iload_n 1, 1), (48, .istore 7, 2), (50, .iload 7, 2), (52, .iload_n 2, 1), (53, .if_icmp .ge 68, 3), (56, .aload_n 0, 1), (57, .getfield 7, 3), (60, .iload 7, 2), (62, .iaload, 1), (63, .istore 8, 2), (65, .aload_n 0, 1), (66, .getfield 7, 3), (69, .iload 7, 2), (71, .iload_n 3, 1), (72, .iastore, 1), (73, .aload_n 0, 1), (74, .aload_n 0, 1), (75, .getfield 13, 3), (78, .invokevirtual 124, 3), (81, .aload_n 0, 1), (82, .getfield 7, 3), (85, .iload 7, 2), (87, .iload 8, 2), (89, .iastore, 1), (90, .aload_n 0, 1), (91, .iconst 0, 1), (92, .invokevirtual 174, 3), (95, .istore 9, 2), (97, .iload 9, 2), (99, .iload 6, 2), (101, .if_icmp .gt 6, 3), (104, .goto 11, 3), (107, .iload 7, 2)]
theorem da_cX5_swings_0 : dk_all cX5_swings dt_cX5_swings_0 = true := by decide +kernel
theorem dX5_swings_0 : decode cX5_swings 0 = .ok (.aload_n 0, 1) := dk_get _ da_cX5_swings_0 0 _ _ _ rfl
theorem dX5_swings_1 : decode cX5_swings 1 = .ok (.iconst 0, 1) := dk_get _ da_cX5_swings_0 1 _ _ _ rfl
theorem dX5_swings_2 : decode cX5_swings 2 = .ok (.putfield 77, 3) := dk_get _ da_cX5_swings_0 2 _ _ _ rfl
theorem dX5_swings_5 : decode cX5_swings 5 = .ok (.aload_n 0, 1) := dk_get _ da_cX5_swings_0 3 _ _ _ rfl
theorem dX5_swings_6 : decode cX5_swings 6 = .ok (.iload_n 1, 1) := dk_get _ da_cX5_swings_0 4 _ _ _ rfl
theorem dX5_swings_7 : decode cX5_swings 7 = .ok (.iload_n 2, 1) := dk_get _ da_cX5_swings_0 5 _ _ _ rfl
theorem dX5_swings_8 : decode cX5_swings 8 = .ok (.invokevirtual 142, 3) := dk_get _ da_cX5_swings_0 6 _ _ _ rfl
theorem dX5_swings_11 : decode cX5_swings 11 = .ok (.ifCond .eq 28, 3) := dk_get _ da_cX5_swings_0 7 _ _ _ rfl
theorem dX5_swings_14 : decode cX5_swings 14 = .ok (.iload_n 2, 1) := dk_get _ da_cX5_swings_0 8 _ _ _ rfl
theorem dX5_swings_15 : decode cX5_swings 15 = .ok (.iload_n 1, 1) := dk_get _ da_cX5_swings_0 9 _ _ _ rfl
theorem dX5_swings_16 : decode cX5_swings 16 = .ok (.isub, 1) := dk_get _ da_cX5_swings_0 10 _ _ _ rfl
theorem dX5_swings_17 : decode cX5_swings 17 = .ok (.bipush 40, 2) := dk_get _ da_cX5_swings_0 11 _ _ _ rfl
theorem dX5_swings_19 : decode cX5_swings 19 = .ok (.if_icmp .gt 20, 3) := dk_get _ da_cX5_swings_0 12 _ _ _ rfl
theorem dX5_swings_22 : decode cX5_swings 22 = .ok (.iload_n 3, 1) := dk_get _ da_cX5_swings_0 13 _ _ _ rfl
theorem dX5_swings_23 : decode cX5_swings 23 = .ok (.invokestatic 132, 3) := dk_get _ da_cX5_swings_0 14 _ _ _ rfl
theorem dX5_swings_26 : decode cX5_swings 26 = .ok (.ifCond .eq 13, 3) := dk_get _ da_cX5_swings_0 15 _ _ _ rfl
theorem dX5_swings_29 : decode cX5_swings 29 = .ok (.iload 4, 2) := dk_get _ da_cX5_swings_0 16 _ _ _ rfl
theorem dX5_swings_31 : decode cX5_swings 31 = .ok (.iconst 0, 1) := dk_get _ da_cX5_swings_0 17 _ _ _ rfl
theorem dX5_swings_32 : decode cX5_swings 32 = .ok (.iconst 1, 1) := dk_get _ da_cX5_swings_0 18 _ _ _ rfl
theorem dX5_swings_33 : decode cX5_swings 33 = .ok (.invokestatic 80, 3) := dk_get _ da_cX5_swings_0 19 _ _ _ rfl
theorem dX5_swings_36 : decode cX5_swings 36 = .ok (.ifCond .ne 5, 3) := dk_get _ da_cX5_swings_0 20 _ _ _ rfl
theorem dX5_swings_39 : decode cX5_swings 39 = .ok (.iconst (-1), 1) := dk_get _ da_cX5_swings_0 21 _ _ _ rfl
theorem dX5_swings_40 : decode cX5_swings 40 = .ok (.ireturn, 1) := dk_get _ da_cX5_swings_0 22 _ _ _ rfl
theorem dX5_swings_41 : decode cX5_swings 41 = .ok (.iconst (-1), 1) := dk_get _ da_cX5_swings_0 23 _ _ _ rfl
theorem dX5_swings_42 : decode cX5_swings 42 = .ok (.istore 5, 2) := dk_get _ da_cX5_swings_0 24 _ _ _ rfl
theorem dX5_swings_44 : decode cX5_swings 44 = .ok (.iconst (-1), 1) := dk_get _ da_cX5_swings_0 25 _ _ _ rfl
theorem dX5_swings_45 : decode cX5_swings 45 = .ok (.istore 6, 2) := dk_get _ da_cX5_swings_0 26 _ _ _ rfl
theorem dX5_swings_47 : decode cX5_swings 47 = .ok (.iload_n 1, 1) := dk_get _ da_cX5_swings_0 27 _ _ _ rfl
theorem dX5_swings_48 : decode cX5_swings 48 = .ok (.istore 7, 2) := dk_get _ da_cX5_swings_0 28 _ _ _ rfl
theorem dX5_swings_50 : decode cX5_swings 50 = .ok (.iload 7, 2) := dk_get _ da_cX5_swings_0 29 _ _ _ rfl
theorem dX5_swings_52 : decode cX5_swings 52 = .ok (.iload_n 2, 1) := dk_get _ da_cX5_swings_0 30 _ _ _ rfl
theorem dX5_swings_53 : decode cX5_swings 53 = .ok (.if_icmp .ge 68, 3) := dk_get _ da_cX5_swings_0 31 _ _ _ rfl
theorem dX5_swings_56 : decode cX5_swings 56 = .ok (.aload_n 0, 1) := dk_get _ da_cX5_swings_0 32 _ _ _ rfl
theorem dX5_swings_57 : decode cX5_swings 57 = .ok (.getfield 7, 3) := dk_get _ da_cX5_swings_0 33 _ _ _ rfl
theorem dX5_swings_60 : decode cX5_swings 60 = .ok (.iload 7, 2) := dk_get _ da_cX5_swings_0 34 _ _ _ rfl
theorem dX5_swings_62 : decode cX5_swings 62 = .ok (.iaload, 1) := dk_get _ da_cX5_swings_0 35 _ _ _ rfl
theorem dX5_swings_63 : decode cX5_swings 63 = .ok (.istore 8, 2) := dk_get _ da_cX5_swings_0 36 _ _ _ rfl
theorem dX5_swings_65 : decode cX5_swings 65 = .ok (.aload_n 0, 1) := dk_get _ da_cX5_swings_0 37 _ _ _ rfl
theorem dX5_swings_66 : decode cX5_swings 66 = .ok (.getfield 7, 3) := dk_get _ da_cX5_swings_0 38 _ _ _ rfl
theorem dX5_swings_69 : decode cX5_swings 69 = .ok (.iload 7, 2) := dk_get _ da_cX5_swings_0 39 _ _ _ rfl
theorem dX5_swings_71 : decode cX5_swings 71 = .ok (.iload_n 3, 1) := dk_get _ da_cX5_swings_0 40 _ _ _ rfl
theorem dX5_swings_72 : decode cX5_swings 72 = .ok (.iastore, 1) := dk_get _ da_cX5_swings_0 41 _ _ _ rfl
theorem dX5_swings_73 : decode cX5_swings 73 = .ok (.aload_n 0, 1) := dk_get _ da_cX5_swings_0 42 _ _ _ rfl
theorem dX5_swings_74 : decode cX5_swings 74 = .ok (.aload_n 0, 1) := dk_get _ da_cX5_swings_0 43 _ _ _ rfl
theorem dX5_swings_75 : decode cX5_swings 75 = .ok (.getfield 13, 3) := dk_get _ da_cX5_swings_0 44 _ _ _ rfl
theorem dX5_swings_78 : decode cX5_swings 78 = .ok (.invokevirtual 124, 3) := dk_get _ da_cX5_swings_0 45 _ _ _ rfl
theorem dX5_swings_81 : decode cX5_swings 81 = .ok (.aload_n 0, 1) := dk_get _ da_cX5_swings_0 46 _ _ _ rfl
theorem dX5_swings_82 : decode cX5_swings 82 = .ok (.getfield 7, 3) := dk_get _ da_cX5_swings_0 47 _ _ _ rfl
theorem dX5_swings_85 : decode cX5_swings 85 = .ok (.iload 7, 2) := dk_get _ da_cX5_swings_0 48 _ _ _ rfl
theorem dX5_swings_87 : decode cX5_swings 87 = .ok (.iload 8, 2) := dk_get _ da_cX5_swings_0 49 _ _ _ rfl
theorem dX5_swings_89 : decode cX5_swings 89 = .ok (.iastore, 1) := dk_get _ da_cX5_swings_0 50 _ _ _ rfl
theorem dX5_swings_90 : decode cX5_swings 90 = .ok (.aload_n 0, 1) := dk_get _ da_cX5_swings_0 51 _ _ _ rfl
theorem dX5_swings_91 : decode cX5_swings 91 = .ok (.iconst 0, 1) := dk_get _ da_cX5_swings_0 52 _ _ _ rfl
theorem dX5_swings_92 : decode cX5_swings 92 = .ok (.invokevirtual 174, 3) := dk_get _ da_cX5_swings_0 53 _ _ _ rfl
theorem dX5_swings_95 : decode cX5_swings 95 = .ok (.istore 9, 2) := dk_get _ da_cX5_swings_0 54 _ _ _ rfl
theorem dX5_swings_97 : decode cX5_swings 97 = .ok (.iload 9, 2) := dk_get _ da_cX5_swings_0 55 _ _ _ rfl
theorem dX5_swings_99 : decode cX5_swings 99 = .ok (.iload 6, 2) := dk_get _ da_cX5_swings_0 56 _ _ _ rfl
theorem dX5_swings_101 : decode cX5_swings 101 = .ok (.if_icmp .gt 6, 3) := dk_get _ da_cX5_swings_0 57 _ _ _ rfl
theorem dX5_swings_104 : decode cX5_swings 104 = .ok (.goto 11, 3) := dk_get _ da_cX5_swings_0 58 _ _ _ rfl
theorem dX5_swings_107 : decode cX5_swings 107 = .ok (.iload 7, 2) := dk_get _ da_cX5_swings_0 59 _ _ _ rfl
def dt_cX5_swings_1 : List (Nat × Instr × Nat) := [(109, .istore 5, 2), (111, .iload 9, 2), (113, .istore 6, 2), (115, .iinc 7 1, 3), (118, .goto (-68), 3), (121, .iload 4, 2), (123, .ifCond .ne 8, 3), (126, .iload 5, 2), (128, .goto 5, 3), (131, .iload 6, 2), (133, .ireturn, 1)]
theorem da_cX5_swings_1 : dk_all cX5_swings dt_cX5_swings_1 = true := by decide +kernel
theorem dX5_swings_109 : decode cX5_swings 109 = .ok (.istore 5, 2) := dk_get _ da_cX5_swings_1 0 _ _ _ rfl
theorem dX5_swings_111 : decode cX5_swings 111 = .ok (.iload 9, 2) := dk_get _ da_cX5_swings_1 1 _ _ _ rfl
theorem dX5_swings_113 : decode cX5_swings 113 = .ok (.istore 6, 2) := dk_get _ da_cX5_swings_1 2 _ _ _ rfl
theorem dX5_swings_115 : decode cX5_swings 115 = .ok (.iinc 7 1, 3) := dk_get _ da_cX5_swings_1 3 _ _ _ rfl
theorem dX5_swings_118 : decode cX5_swings 118 = .ok (.goto (-68), 3) := dk_get _ da_cX5_swings_1 4 _ _ _ rfl
theorem dX5_swings_121 : decode cX5_swings 121 = .ok (.iload 4, 2) := dk_get _ da_cX5_swings_1 5 _ _ _ rfl
theorem dX5_swings_123 : decode cX5_swings 123 = .ok (.ifCond .ne 8, 3) := dk_get _ da_cX5_swings_1 6 _ _ _ rfl
theorem dX5_swings_126 : decode cX5_swings 126 = .ok (.iload 5, 2) := dk_get _ da_cX5_swings_1 7 _ _ _ rfl
theorem dX5_swings_128 : decode cX5_swings 128 = .ok (.goto 5, 3) := dk_get _ da_cX5_swings_1 8 _ _ _ rfl
theorem dX5_swings_131 : decode cX5_swings 131 = .ok (.iload 6, 2) := dk_get _ da_cX5_swings_1 9 _ _ _ rfl
theorem dX5_swings_133 : decode cX5_swings 133 = .ok (.ireturn, 1) := dk_get _ da_cX5_swings_1 10 _ _ _ rfl
set_option maxRecDepth 20000 in
theorem ggX5_deep_X5_deep : GoodIn wsX5_deep wsX5_deep := goodIn_r _ [0, 1, 2, 3, 4] rfl (by decide +kernel)
set_option maxRecDepth 20000 in
theorem gX5_deep_X5_deep : GoodIn wsX5_deep (wsV RX5 220 RX5 yX5_deep wsX5_deep) := goodIn_app (goodIn_r _ [1, 2, 3, 4] rfl (by decide +kernel)) ggX5_deep_X5_deep
def dt_cX5_deep_0 : List (Nat × Instr × Nat) := [(0, .iload_n 2, 1), (1, .iload_n 1, 1), (2, .isub, 1), (3, .iconst 2, 1), (4, .if_icmp .ge 7, 3), (7, .iload_n 2, 1), (8, .iload_n 1, 1), (9, .isub, 1), (10, .ireturn, 1), (11, .iload_n 1, 1), (12, .iload_n 2, 1), (13, .iadd, 1), (14, .iconst 2, 1), (15, .idiv, 1), (16, .istore_n 3, 1), (17, .aload_n 0, 1), (18, .iload_n 1, 1), (19, .iload_n 3, 1), (20, .invokevirtual 220, 3), (23, .istore 4, 2), (25, .aload_n 0, 1), (26, .iload_n 3, 1), (27, .iload_n 2, 1), (28, .invokevirtual 220, 3), (31, .istore 5, 2), (33, .iconst 1, 1), (34, .iload 4, 2), (36, .iload 5, 2), (38, .if_icmp .le 8, 3), (41, .iload 4, 2), (43, .goto 5, 3), (46, .iload 5, 2), (48, .iadd, 1), (49, .ireturn, 1)]
theorem da_cX5_deep_0 : dk_all cX5_deep dt_cX5_deep_0 = true := by decide +kernel
theorem dX5_deep_0 : decode cX5_deep 0 = .ok (.iload_n 2, 1) := dk_get _ da_cX5_deep_0 0 _ _ _ rfl
theorem dX5_deep_1 : decode cX5_deep 1 = .ok (.iload_n 1, 1) := dk_get _ da_cX5_deep_0 1 _ _ _ rfl
theorem dX5_deep_2 : decode cX5_deep 2 = .ok (.isub, 1) := dk_get _ da_cX5_deep_0 2 _ _ _ rfl
theorem dX5_deep_3 : decode cX5_deep 3 = .ok (.iconst 2, 1) := dk_get _ da_cX5_deep_0 3 _ _ _ rfl
theorem dX5_deep_4 : decode cX5_deep 4 = .ok (.if_icmp .ge 7, 3) := dk_get _ da_cX5_deep_0 4 _ _ _ rfl
theorem dX5_deep_7 : decode cX5_deep 7 = .ok (.iload_n 2, 1) := dk_get _ da_cX5_deep_0 5 _ _ _ rfl
theorem dX5_deep_8 : decode cX5_deep 8 = .ok (.iload_n 1, 1) := dk_get _ da_cX5_deep_0 6 _ _ _ rfl
theorem dX5_deep_9 : decode cX5_deep 9 = .ok (.isub, 1) := dk_get _ da_cX5_deep_0 7 _ _ _ rfl
theorem dX5_deep_10 : decode cX5_deep 10 = .ok (.ireturn, 1) := dk_get _ da_cX5_deep_0 8 _ _ _ rfl
theorem dX5_deep_11 : decode cX5_deep 11 = .ok (.iload_n 1, 1) := dk_get _ da_cX5_deep_0 9 _ _ _ rfl
theorem dX5_deep_12 : decode cX5_deep 12 = .ok (.iload_n 2, 1) := dk_get _ da_cX5_deep_0 10 _ _ _ rfl
theorem dX5_deep_13 : decode cX5_deep 13 = .ok (.iadd, 1) := dk_get _ da_cX5_deep_0 11 _ _ _ rfl
theorem dX5_deep_14 : decode cX5_deep 14 = .ok (.iconst 2, 1) := dk_get _ da_cX5_deep_0 12 _ _ _ rfl
theorem dX5_deep_15 : decode cX5_deep 15 = .ok (.idiv, 1) := dk_get _ da_cX5_deep_0 13 _ _ _ rfl
theorem dX5_deep_16 : decode cX5_deep 16 = .ok (.istore_n 3, 1) := dk_get _ da_cX5_deep_0 14 _ _ _ rfl
theorem dX5_deep_17 : decode cX5_deep 17 = .ok (.aload_n 0, 1) := dk_get _ da_cX5_deep_0 15 _ _ _ rfl
theorem dX5_deep_18 : decode cX5_deep 18 = .ok (.iload_n 1, 1) := dk_get _ da_cX5_deep_0 16 _ _ _ rfl
theorem dX5_deep_19 : decode cX5_deep 19 = .ok (.iload_n 3, 1) := dk_get _ da_cX5_deep_0 17 _ _ _ rfl
theorem dX5_deep_20 : decode cX5_deep 20 = .ok (.invokevirtual 220, 3) := dk_get _ da_cX5_deep_0 18 _ _ _ rfl
theorem dX5_deep_23 : decode cX5_deep 23 = .ok (.istore 4, 2) := dk_get _ da_cX5_deep_0 19 _ _ _ rfl
theorem dX5_deep_25 : decode cX5_deep 25 = .ok (.aload_n 0, 1) := dk_get _ da_cX5_deep_0 20 _ _ _ rfl
theorem dX5_deep_26 : decode cX5_deep 26 = .ok (.iload_n 3, 1) := dk_get _ da_cX5_deep_0 21 _ _ _ rfl
theorem dX5_deep_27 : decode cX5_deep 27 = .ok (.iload_n 2, 1) := dk_get _ da_cX5_deep_0 22 _ _ _ rfl
theorem dX5_deep_28 : decode cX5_deep 28 = .ok (.invokevirtual 220, 3) := dk_get _ da_cX5_deep_0 23 _ _ _ rfl
theorem dX5_deep_31 : decode cX5_deep 31 = .ok (.istore 5, 2) := dk_get _ da_cX5_deep_0 24 _ _ _ rfl
theorem dX5_deep_33 : decode cX5_deep 33 = .ok (.iconst 1, 1) := dk_get _ da_cX5_deep_0 25 _ _ _ rfl
theorem dX5_deep_34 : decode cX5_deep 34 = .ok (.iload 4, 2) := dk_get _ da_cX5_deep_0 26 _ _ _ rfl
theorem dX5_deep_36 : decode cX5_deep 36 = .ok (.iload 5, 2) := dk_get _ da_cX5_deep_0 27 _ _ _ rfl
theorem dX5_deep_38 : decode cX5_deep 38 = .ok (.if_icmp .le 8, 3) := dk_get _ da_cX5_deep_0 28 _ _ _ rfl
theorem dX5_deep_41 : decode cX5_deep 41 = .ok (.iload 4, 2) := dk_get _ da_cX5_deep_0 29 _ _ _ rfl
theorem dX5_deep_43 : decode cX5_deep 43 = .ok (.goto 5, 3) := dk_get _ da_cX5_deep_0 30 _ _ _ rfl
theorem dX5_deep_46 : decode cX5_deep 46 = .ok (.iload 5, 2) := dk_get _ da_cX5_deep_0 31 _ _ _ rfl
theorem dX5_deep_48 : decode cX5_deep 48 = .ok (.iadd, 1) := dk_get _ da_cX5_deep_0 32 _ _ _ rfl
theorem dX5_deep_49 : decode cX5_deep 49 = .ok (.ireturn, 1) := dk_get _ da_cX5_deep_0 33 _ _ _ rfl
set_option maxRecDepth 20000 in
theorem ggX5_nodesWithMajority_X5_majorityOf : GoodIn wsX5_nodesWithMajority wsX5_majorityOf := goodIn_r _ [9, 10, 4, 11, 12, 13, 8, 14, 15, 16, 17, 18, 19, 20, 21, 22, 23, 24, 25, 26, 27, 28, 29, 30, 31, 32, 33, 34, 35, 36, 37, 38, 39, 40, 41, 42, 43, 44] rfl (by decide +kernel)
set_option maxRecDepth 20000 in
theorem gX5_nodesWithMajority_X5_majorityOf : GoodIn wsX5_nodesWithMajority (wsV RX5 194 RX5 yX5_majorityOf wsX5_majorityOf) := goodIn_app (goodIn_r _ [5, 6, 7, 8] rfl (by decide +kernel)) ggX5_nodesWithMajority_X5_majorityOf
def dt_cX5_nodesWithMajority_0 : List (Nat × Instr × Nat) := [(0, .iconst 0, 1), (1, .istore_n 1, 1), (2, .iconst 0, 1), (3, .istore_n 2, 1), (4, .iload_n 2, 1), (5, .aload_n 0, 1), (6, .getfield 101, 3), (9, .if_icmp .ge 33, 3), (12, .aload_n 0, 1), (13, .aload_n 0, 1), (14, .getfield 38, 3), (17, .iload_n 2, 1), (18, .iaload, 1), (19, .aload_n 0, 1), (20, .getfield 41, 3), (23, .iload_n 2, 1), (24, .iaload, 1), (25, .invokevirtual 194, 3), (28, .ldc 148, 2), (30, .if_icmp .eq 6, 3), (33, .iinc 1 1, 3), (36, .iinc 2 1, 3), (39, .goto (-35), 3), (42, .iload_n 1, 1), (43, .ireturn, 1)]
theorem da_cX5_nodesWithMajority_0 : dk_all cX5_nodesWithMajority dt_cX5_nodesWithMajority_0 = true := by decide +kernel
theorem dX5_nodesWithMajority_0 : decode cX5_nodesWithMajority 0 = .ok (.iconst 0, 1) := dk_get _ da_cX5_nodesWithMajority_0 0 _ _ _ rfl
theorem dX5_nodesWithMajority_1 : decode cX5_nodesWithMajority 1 = .ok (.istore_n 1, 1) := dk_get _ da_cX5_nodesWithMajority_0 1 _ _ _ rfl
theorem dX5_nodesWithMajority_2 : decode cX5_nodesWithMajority 2 = .ok (.iconst 0, 1) := dk_get _ da_cX5_nodesWithMajority_0 2 _ _ _ rfl
theorem dX5_nodesWithMajority_3 : decode cX5_nodesWithMajority 3 = .ok (.istore_n 2, 1) := dk_get _ da_cX5_nodesWithMajority_0 3 _ _ _ rfl
theorem dX5_nodesWithMajority_4 : decode cX5_nodesWithMajority 4 = .ok (.iload_n 2, 1) := dk_get _ da_cX5_nodesWithMajority_0 4 _ _ _ rfl
theorem dX5_nodesWithMajority_5 : decode cX5_nodesWithMajority 5 = .ok (.aload_n 0, 1) := dk_get _ da_cX5_nodesWithMajority_0 5 _ _ _ rfl
theorem dX5_nodesWithMajority_6 : decode cX5_nodesWithMajority 6 = .ok (.getfield 101, 3) := dk_get _ da_cX5_nodesWithMajority_0 6 _ _ _ rfl
theorem dX5_nodesWithMajority_9 : decode cX5_nodesWithMajority 9 = .ok (.if_icmp .ge 33, 3) := dk_get _ da_cX5_nodesWithMajority_0 7 _ _ _ rfl
theorem dX5_nodesWithMajority_12 : decode cX5_nodesWithMajority 12 = .ok (.aload_n 0, 1) := dk_get _ da_cX5_nodesWithMajority_0 8 _ _ _ rfl
theorem dX5_nodesWithMajority_13 : decode cX5_nodesWithMajority 13 = .ok (.aload_n 0, 1) := dk_get _ da_cX5_nodesWithMajority_0 9 _ _ _ rfl
theorem dX5_nodesWithMajority_14 : decode cX5_nodesWithMajority 14 = .ok (.getfield 38, 3) := dk_get _ da_cX5_nodesWithMajority_0 10 _ _ _ rfl
theorem dX5_nodesWithMajority_17 : decode cX5_nodesWithMajority 17 = .ok (.iload_n 2, 1) := dk_get _ da_cX5_nodesWithMajority_0 11 _ _ _ rfl
theorem dX5_nodesWithMajority_18 : decode cX5_nodesWithMajority 18 = .ok (.iaload, 1) := dk_get _ da_cX5_nodesWithMajority_0 12 _ _ _ rfl
theorem dX5_nodesWithMajority_19 : decode cX5_nodesWithMajority 19 = .ok (.aload_n 0, 1) := dk_get _ da_cX5_nodesWithMajority_0 13 _ _ _ rfl
theorem dX5_nodesWithMajority_20 : decode cX5_nodesWithMajority 20 = .ok (.getfield 41, 3) := dk_get _ da_cX5_nodesWithMajority_0 14 _ _ _ rfl
theorem dX5_nodesWithMajority_23 : decode cX5_nodesWithMajority 23 = .ok (.iload_n 2, 1) := dk_get _ da_cX5_nodesWithMajority_0 15 _ _ _ rfl
theorem dX5_nodesWithMajority_24 : decode cX5_nodesWithMajority 24 = .ok (.iaload, 1) := dk_get _ da_cX5_nodesWithMajority_0 16 _ _ _ rfl
theorem dX5_nodesWithMajority_25 : decode cX5_nodesWithMajority 25 = .ok (.invokevirtual 194, 3) := dk_get _ da_cX5_nodesWithMajority_0 17 _ _ _ rfl
theorem dX5_nodesWithMajority_28 : decode cX5_nodesWithMajority 28 = .ok (.ldc 148, 2) := dk_get _ da_cX5_nodesWithMajority_0 18 _ _ _ rfl
theorem dX5_nodesWithMajority_30 : decode cX5_nodesWithMajority 30 = .ok (.if_icmp .eq 6, 3) := dk_get _ da_cX5_nodesWithMajority_0 19 _ _ _ rfl
theorem dX5_nodesWithMajority_33 : decode cX5_nodesWithMajority 33 = .ok (.iinc 1 1, 3) := dk_get _ da_cX5_nodesWithMajority_0 20 _ _ _ rfl
theorem dX5_nodesWithMajority_36 : decode cX5_nodesWithMajority 36 = .ok (.iinc 2 1, 3) := dk_get _ da_cX5_nodesWithMajority_0 21 _ _ _ rfl
theorem dX5_nodesWithMajority_39 : decode cX5_nodesWithMajority 39 = .ok (.goto (-35), 3) := dk_get _ da_cX5_nodesWithMajority_0 22 _ _ _ rfl
theorem dX5_nodesWithMajority_42 : decode cX5_nodesWithMajority 42 = .ok (.iload_n 1, 1) := dk_get _ da_cX5_nodesWithMajority_0 23 _ _ _ rfl
theorem dX5_nodesWithMajority_43 : decode cX5_nodesWithMajority 43 = .ok (.ireturn, 1) := dk_get _ da_cX5_nodesWithMajority_0 24 _ _ _ rfl
theorem mi_wsX5_told_wsX5_told_r1 : ∀ w ∈ wsX5_told_r1, w ∈ wsX5_told := fun _ h => (List.mem_cons_of_mem _ (List.mem_append_left _ (List.mem_append_left _ h)))
theorem mi_wsX5_told_wsX5_told_r2 : ∀ w ∈ wsX5_told_r2, w ∈ wsX5_told := fun _ h => (List.mem_cons_of_mem _ (List.mem_append_left _ (List.mem_append_right _ (List.mem_append_left _ h))))
theorem mi_wsX5_told_wsX50 : ∀ w ∈ wsX50, w ∈ wsX5_told := fun _ h => (List.mem_cons_of_mem _ (List.mem_append_right _ h))
set_option maxRecDepth 20000 in
theorem ggX5_told_X5_laysAll : GoodIn wsX5_told wsX5_laysAll := goodIn_k _ [(wsX5_told_r1, [9, 3, 2, 10, 11, 12, 8, 13, 14, 15, 16, 17, 18, 19, 20, 21, 4, 22, 23]), (wsX5_told_r2, [0, 1, 2, 3, 4, 5, 6, 7, 8, 9, 10, 11, 12, 13, 14, 15, 16, 17, 18, 19]), (wsX50, [0, 1, 2, 3, 4, 5, 6, 7, 8, 9, 10, 11, 12, 13, 14, 15, 16, 17, 18, 19, 20, 21, 22, 23, 24, 25, 26, 27, 28, 29])] (gk_c mi_wsX5_told_wsX5_told_r1 (gk_c mi_wsX5_told_wsX5_told_r2 (gk_c mi_wsX5_told_wsX50 gk_n))) rfl (by decide +kernel)
set_option maxRecDepth 20000 in
theorem gX5_told_X5_laysAll : GoodIn wsX5_told (wsV RX5 124 RX5 yX5_laysAll wsX5_laysAll) := goodIn_app (goodIn_k _ [(wsX5_told_r1, [5, 6, 7, 8])] (gk_c mi_wsX5_told_wsX5_told_r1 gk_n) rfl (by decide +kernel)) ggX5_told_X5_laysAll
theorem mi_wsX5_told_wsX5_told_r3 : ∀ w ∈ wsX5_told_r3, w ∈ wsX5_told := fun _ h => (List.mem_cons_of_mem _ (List.mem_append_left _ (List.mem_append_right _ (List.mem_append_right _ h))))
set_option maxRecDepth 20000 in
theorem ggX5_told_X5_nodesWithMajority : GoodIn wsX5_told wsX5_nodesWithMajority := goodIn_k _ [(wsX5_told_r2, [23]), (wsX5_told_r1, [3, 14, 15]), (wsX5_told_r3, [0, 1, 2, 3]), (wsX5_told_r1, [8]), (wsX5_told_r3, [4]), (wsX5_told_r1, [16]), (wsX5_told_r3, [5, 6, 7, 8]), (wsX50, [0, 1, 2, 3, 4, 5, 6, 7, 8, 9, 10, 11, 12, 13, 14, 15, 16, 17, 18, 19, 20, 21, 22, 23, 24, 25, 26, 27, 28, 29])] (gk_c mi_wsX5_told_wsX5_told_r2 (gk_c mi_wsX5_told_wsX5_told_r1 (gk_c mi_wsX5_told_wsX5_told_r3 (gk_c mi_wsX5_told_wsX5_told_r1 (gk_c mi_wsX5_told_wsX5_told_r3 (gk_c mi_wsX5_told_wsX5_told_r1 (gk_c mi_wsX5_told_wsX5_told_r3 (gk_c mi_wsX5_told_wsX50 gk_n)))))))) rfl (by decide +kernel)
set_option maxRecDepth 20000 in
theorem gX5_told_X5_nodesWithMajority : GoodIn wsX5_told (wsV RX5 223 RX5 yX5_nodesWithMajority wsX5_nodesWithMajority) := goodIn_app (goodIn_k _ [(wsX5_told_r2, [20, 21, 22]), (wsX5_told_r1, [8])] (gk_c mi_wsX5_told_wsX5_told_r2 (gk_c mi_wsX5_told_wsX5_told_r1 gk_n)) rfl (by decide +kernel)) ggX5_told_X5_nodesWithMajority
set_option maxRecDepth 20000 in
theorem ggX5_told_X5_deep : GoodIn wsX5_told wsX5_deep := goodIn_k _ [(wsX5_told_r3, [12, 9, 10, 11]), (wsX5_told_r1, [8])] (gk_c mi_wsX5_told_wsX5_told_r3 (gk_c mi_wsX5_told_wsX5_told_r1 gk_n)) rfl (by decide +kernel)
set_option maxRecDepth 20000 in
theorem gX5_told_X5_deep : GoodIn wsX5_told (wsV RX5 220 RX5 yX5_deep wsX5_deep) := goodIn_app (goodIn_k _ [(wsX5_told_r3, [9, 10, 11]), (wsX5_told_r1, [8])] (gk_c mi_wsX5_told_wsX5_told_r3 (gk_c mi_wsX5_told_wsX5_told_r1 gk_n)) rfl (by decide +kernel)) ggX5_told_X5_deep
def dt_cX5_told_0 : List (Nat × Instr × Nat) := [(0, .aload_n 0, 1), (1, .iconst 0, 1), (2, .putfield 77, 3), (5, .aload_n 0, 1), (6, .aload_n 0, 1), (7, .getfield 13, 3), (10, .invokevirtual 124, 3), (13, .iload_n 1, 1), (14, .tableswitch 119 0 6 #[42, 47, 52, 57, 62, 72, 90], 42), (56, .aload_n 0, 1), (57, .getfield 84, 3), (60, .ireturn, 1), (61, .aload_n 0, 1), (62, .getfield 13, 3), (65, .ireturn, 1), (66, .aload_n 0, 1), (67, .getfield 101, 3), (70, .ireturn, 1), (71, .aload_n 0, 1), (72, .invokevirtual 223, 3), (75, .ireturn, 1), (76, .aload_n 0, 1), (77, .iconst 0, 1), (78, .aload_n 0, 1), (79, .getfield 84, 3), (82, .invokevirtual 220, 3), (85, .ireturn, 1), (86, .aload_n 0, 1), (87, .getfield 84, 3), (90, .ifCond .ne 7, 3), (93, .iconst 0, 1), (94, .goto 9, 3), (97, .aload_n 0, 1), (98, .getfield 20, 3), (101, .iconst 0, 1), (102, .iaload, 1), (103, .ireturn, 1), (104, .iconst 0, 1), (105, .istore_n 2, 1), (106, .iconst 0, 1), (107, .istore_n 3, 1), (108, .iload_n 3, 1), (109, .aload_n 0, 1), (110, .getfield 101, 3), (113, .if_icmp .ge 18, 3), (116, .iload_n 2, 1), (117, .aload_n 0, 1), (118, .getfield 20, 3), (121, .iload_n 3, 1), (122, .iaload, 1), (123, .iadd, 1), (124, .istore_n 2, 1), (125, .iinc 3 1, 3), (128, .goto (-20), 3), (131, .iload_n 2, 1), (132, .ireturn, 1), (133, .iconst (-1), 1), (134, .ireturn, 1)]
theorem da_cX5_told_0 : dk_all cX5_told dt_cX5_told_0 = true := by decide +kernel
theorem dX5_told_0 : decode cX5_told 0 = .ok (.aload_n 0, 1) := dk_get _ da_cX5_told_0 0 _ _ _ rfl
theorem dX5_told_1 : decode cX5_told 1 = .ok (.iconst 0, 1) := dk_get _ da_cX5_told_0 1 _ _ _ rfl
theorem dX5_told_2 : decode cX5_told 2 = .ok (.putfield 77, 3) := dk_get _ da_cX5_told_0 2 _ _ _ rfl
theorem dX5_told_5 : decode cX5_told 5 = .ok (.aload_n 0, 1) := dk_get _ da_cX5_told_0 3 _ _ _ rfl
theorem dX5_told_6 : decode cX5_told 6 = .ok (.aload_n 0, 1) := dk_get _ da_cX5_told_0 4 _ _ _ rfl
theorem dX5_told_7 : decode cX5_told 7 = .ok (.getfield 13, 3) := dk_get _ da_cX5_told_0 5 _ _ _ rfl
theorem dX5_told_10 : decode cX5_told 10 = .ok (.invokevirtual 124, 3) := dk_get _ da_cX5_told_0 6 _ _ _ rfl
theorem dX5_told_13 : decode cX5_told 13 = .ok (.iload_n 1, 1) := dk_get _ da_cX5_told_0 7 _ _ _ rfl
theorem dX5_told_14 : decode cX5_told 14 = .ok (.tableswitch 119 0 6 #[42, 47, 52, 57, 62, 72, 90], 42) := dk_get _ da_cX5_told_0 8 _ _ _ rfl
theorem dX5_told_56 : decode cX5_told 56 = .ok (.aload_n 0, 1) := dk_get _ da_cX5_told_0 9 _ _ _ rfl
theorem dX5_told_57 : decode cX5_told 57 = .ok (.getfield 84, 3) := dk_get _ da_cX5_told_0 10 _ _ _ rfl
theorem dX5_told_60 : decode cX5_told 60 = .ok (.ireturn, 1) := dk_get _ da_cX5_told_0 11 _ _ _ rfl
theorem dX5_told_61 : decode cX5_told 61 = .ok (.aload_n 0, 1) := dk_get _ da_cX5_told_0 12 _ _ _ rfl
theorem dX5_told_62 : decode cX5_told 62 = .ok (.getfield 13, 3) := dk_get _ da_cX5_told_0 13 _ _ _ rfl
theorem dX5_told_65 : decode cX5_told 65 = .ok (.ireturn, 1) := dk_get _ da_cX5_told_0 14 _ _ _ rfl
theorem dX5_told_66 : decode cX5_told 66 = .ok (.aload_n 0, 1) := dk_get _ da_cX5_told_0 15 _ _ _ rfl
theorem dX5_told_67 : decode cX5_told 67 = .ok (.getfield 101, 3) := dk_get _ da_cX5_told_0 16 _ _ _ rfl
theorem dX5_told_70 : decode cX5_told 70 = .ok (.ireturn, 1) := dk_get _ da_cX5_told_0 17 _ _ _ rfl
theorem dX5_told_71 : decode cX5_told 71 = .ok (.aload_n 0, 1) := dk_get _ da_cX5_told_0 18 _ _ _ rfl
theorem dX5_told_72 : decode cX5_told 72 = .ok (.invokevirtual 223, 3) := dk_get _ da_cX5_told_0 19 _ _ _ rfl
theorem dX5_told_75 : decode cX5_told 75 = .ok (.ireturn, 1) := dk_get _ da_cX5_told_0 20 _ _ _ rfl
theorem dX5_told_76 : decode cX5_told 76 = .ok (.aload_n 0, 1) := dk_get _ da_cX5_told_0 21 _ _ _ rfl
theorem dX5_told_77 : decode cX5_told 77 = .ok (.iconst 0, 1) := dk_get _ da_cX5_told_0 22 _ _ _ rfl
theorem dX5_told_78 : decode cX5_told 78 = .ok (.aload_n 0, 1) := dk_get _ da_cX5_told_0 23 _ _ _ rfl
theorem dX5_told_79 : decode cX5_told 79 = .ok (.getfield 84, 3) := dk_get _ da_cX5_told_0 24 _ _ _ rfl
theorem dX5_told_82 : decode cX5_told 82 = .ok (.invokevirtual 220, 3) := dk_get _ da_cX5_told_0 25 _ _ _ rfl
theorem dX5_told_85 : decode cX5_told 85 = .ok (.ireturn, 1) := dk_get _ da_cX5_told_0 26 _ _ _ rfl
theorem dX5_told_86 : decode cX5_told 86 = .ok (.aload_n 0, 1) := dk_get _ da_cX5_told_0 27 _ _ _ rfl
theorem dX5_told_87 : decode cX5_told 87 = .ok (.getfield 84, 3) := dk_get _ da_cX5_told_0 28 _ _ _ rfl
theorem dX5_told_90 : decode cX5_told 90 = .ok (.ifCond .ne 7, 3) := dk_get _ da_cX5_told_0 29 _ _ _ rfl
theorem dX5_told_93 : decode cX5_told 93 = .ok (.iconst 0, 1) := dk_get _ da_cX5_told_0 30 _ _ _ rfl
theorem dX5_told_94 : decode cX5_told 94 = .ok (.goto 9, 3) := dk_get _ da_cX5_told_0 31 _ _ _ rfl
theorem dX5_told_97 : decode cX5_told 97 = .ok (.aload_n 0, 1) := dk_get _ da_cX5_told_0 32 _ _ _ rfl
theorem dX5_told_98 : decode cX5_told 98 = .ok (.getfield 20, 3) := dk_get _ da_cX5_told_0 33 _ _ _ rfl
theorem dX5_told_101 : decode cX5_told 101 = .ok (.iconst 0, 1) := dk_get _ da_cX5_told_0 34 _ _ _ rfl
theorem dX5_told_102 : decode cX5_told 102 = .ok (.iaload, 1) := dk_get _ da_cX5_told_0 35 _ _ _ rfl
theorem dX5_told_103 : decode cX5_told 103 = .ok (.ireturn, 1) := dk_get _ da_cX5_told_0 36 _ _ _ rfl
theorem dX5_told_104 : decode cX5_told 104 = .ok (.iconst 0, 1) := dk_get _ da_cX5_told_0 37 _ _ _ rfl
theorem dX5_told_105 : decode cX5_told 105 = .ok (.istore_n 2, 1) := dk_get _ da_cX5_told_0 38 _ _ _ rfl
theorem dX5_told_106 : decode cX5_told 106 = .ok (.iconst 0, 1) := dk_get _ da_cX5_told_0 39 _ _ _ rfl
theorem dX5_told_107 : decode cX5_told 107 = .ok (.istore_n 3, 1) := dk_get _ da_cX5_told_0 40 _ _ _ rfl
theorem dX5_told_108 : decode cX5_told 108 = .ok (.iload_n 3, 1) := dk_get _ da_cX5_told_0 41 _ _ _ rfl
theorem dX5_told_109 : decode cX5_told 109 = .ok (.aload_n 0, 1) := dk_get _ da_cX5_told_0 42 _ _ _ rfl
theorem dX5_told_110 : decode cX5_told 110 = .ok (.getfield 101, 3) := dk_get _ da_cX5_told_0 43 _ _ _ rfl
theorem dX5_told_113 : decode cX5_told 113 = .ok (.if_icmp .ge 18, 3) := dk_get _ da_cX5_told_0 44 _ _ _ rfl
theorem dX5_told_116 : decode cX5_told 116 = .ok (.iload_n 2, 1) := dk_get _ da_cX5_told_0 45 _ _ _ rfl
theorem dX5_told_117 : decode cX5_told 117 = .ok (.aload_n 0, 1) := dk_get _ da_cX5_told_0 46 _ _ _ rfl
theorem dX5_told_118 : decode cX5_told 118 = .ok (.getfield 20, 3) := dk_get _ da_cX5_told_0 47 _ _ _ rfl
theorem dX5_told_121 : decode cX5_told 121 = .ok (.iload_n 3, 1) := dk_get _ da_cX5_told_0 48 _ _ _ rfl
theorem dX5_told_122 : decode cX5_told 122 = .ok (.iaload, 1) := dk_get _ da_cX5_told_0 49 _ _ _ rfl
theorem dX5_told_123 : decode cX5_told 123 = .ok (.iadd, 1) := dk_get _ da_cX5_told_0 50 _ _ _ rfl
theorem dX5_told_124 : decode cX5_told 124 = .ok (.istore_n 2, 1) := dk_get _ da_cX5_told_0 51 _ _ _ rfl
theorem dX5_told_125 : decode cX5_told 125 = .ok (.iinc 3 1, 3) := dk_get _ da_cX5_told_0 52 _ _ _ rfl
theorem dX5_told_128 : decode cX5_told 128 = .ok (.goto (-20), 3) := dk_get _ da_cX5_told_0 53 _ _ _ rfl
theorem dX5_told_131 : decode cX5_told 131 = .ok (.iload_n 2, 1) := dk_get _ da_cX5_told_0 54 _ _ _ rfl
theorem dX5_told_132 : decode cX5_told 132 = .ok (.ireturn, 1) := dk_get _ da_cX5_told_0 55 _ _ _ rfl
theorem dX5_told_133 : decode cX5_told 133 = .ok (.iconst (-1), 1) := dk_get _ da_cX5_told_0 56 _ _ _ rfl
theorem dX5_told_134 : decode cX5_told 134 = .ok (.ireturn, 1) := dk_get _ da_cX5_told_0 57 _ _ _ rfl

