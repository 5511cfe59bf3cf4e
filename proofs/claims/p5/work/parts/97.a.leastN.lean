abbrev cX5_least : ByteArray := prog_7_method_59_code
def yX5_least : MethodName := ⟨RX5, "least", "(IIII)I"⟩
def wsX5_least_r1 : List Cond := [Cond.fieldLink RX5 77 "MajorityIndexModel" "thrown" "I", Cond.fieldLink RX5 178 "MajorityIndexModel" "heavyMany" "I", Cond.fieldLink RX5 62 "MajorityIndexModel" "heavyValue" "[I", Cond.methodLink RX5 142 yX5_isRange, Cond.instanceMethod yX5_isRange, Cond.selects RX5 yX5_isRange yX5_isRange, Cond.initialized RX5, Cond.code yX5_isRange cX5_isRange 3 (some .boolean), Cond.fieldLink RX5 84 "MajorityIndexModel" "n" "I", Cond.methodLink RX5 184 yX5_isShare, Cond.static yX5_isShare, Cond.code yX5_isShare cX5_isShare 2 (some .boolean), Cond.methodLink RX5 80 yX5_within, Cond.static yX5_within, Cond.code yX5_within cX5_within 3 (some .boolean), Cond.methodLink RX5 190 yX5_laysHeavy, Cond.instanceMethod yX5_laysHeavy, Cond.selects RX5 yX5_laysHeavy yX5_laysHeavy, Cond.code yX5_laysHeavy cX5_laysHeavy 10 none, Cond.fieldLink RX5 7 "MajorityIndexModel" "row" "[I", Cond.methodLink RX5 149 yX5_times, Cond.instanceMethod yX5_times, Cond.selects RX5 yX5_times yX5_times, Cond.code yX5_times cX5_times 6 (some .int)]
def wsX5_least_r2 : List Cond := [Cond.methodLink RX5 181 yX5_comes, Cond.instanceMethod yX5_comes, Cond.selects RX5 yX5_comes yX5_comes, Cond.code yX5_comes cX5_comes 4 none, Cond.fieldLink RX5 65 "MajorityIndexModel" "heavyTimes" "[I", Cond.methodLink RX5 124 yX5_laysAll, Cond.instanceMethod yX5_laysAll, Cond.selects RX5 yX5_laysAll yX5_laysAll, Cond.code yX5_laysAll cX5_laysAll 2 none, Cond.fieldLink RX5 101 "MajorityIndexModel" "nodes" "I", Cond.methodLink RX5 107 yX5_lays, Cond.instanceMethod yX5_lays, Cond.selects RX5 yX5_lays yX5_lays, Cond.code yX5_lays cX5_lays 8 (some .int), Cond.fieldLink RX5 38 "MajorityIndexModel" "nodeL" "[I", Cond.fieldLink RX5 41 "MajorityIndexModel" "nodeR" "[I", Cond.methodLink RX5 104 yX5_one, Cond.instanceMethod yX5_one, Cond.selects RX5 yX5_one yX5_one, Cond.code yX5_one cX5_one 3 none, Cond.fieldLink RX5 17 "MajorityIndexModel" "many" "[I", Cond.fieldLink RX5 20 "MajorityIndexModel" "loss" "[I", Cond.fieldLink RX5 23 "MajorityIndexModel" "less" "[I", Cond.fieldLink RX5 26 "MajorityIndexModel" "voteValue" "[I"]
def wsX5_least_r3 : List Cond := [Cond.fieldLink RX5 29 "MajorityIndexModel" "voteNumber" "[I", Cond.methodLink RX5 111 yX5_together, Cond.instanceMethod yX5_together, Cond.selects RX5 yX5_together yX5_together, Cond.code yX5_together cX5_together 9 none, Cond.fieldLink RX5 87 "MajorityIndexModel" "allMany" "I", Cond.fieldLink RX5 35 "MajorityIndexModel" "allNumber" "[I", Cond.fieldLink RX5 32 "MajorityIndexModel" "allValue" "[I", Cond.methodLink RX5 94 yX5_adds, Cond.instanceMethod yX5_adds, Cond.selects RX5 yX5_adds yX5_adds, Cond.code yX5_adds cX5_adds 4 none, Cond.methodLink RX5 98 yX5_sorts, Cond.instanceMethod yX5_sorts, Cond.selects RX5 yX5_sorts yX5_sorts, Cond.code yX5_sorts cX5_sorts 4 none, Cond.methodLink RX5 90 yX5_isAhead, Cond.instanceMethod yX5_isAhead, Cond.selects RX5 yX5_isAhead yX5_isAhead, Cond.code yX5_isAhead cX5_isAhead 3 (some .boolean), Cond.methodLink RX5 168 yX5_folds, Cond.instanceMethod yX5_folds, Cond.selects RX5 yX5_folds yX5_folds, Cond.code yX5_folds cX5_folds 6 none]
def wsX5_least_r4 : List Cond := [Cond.fieldLink RX5 44 "MajorityIndexModel" "part" "[I", Cond.fieldLink RX5 115 "MajorityIndexModel" "partMany" "I", Cond.methodLink RX5 118 yX5_laysParts, Cond.instanceMethod yX5_laysParts, Cond.selects RX5 yX5_laysParts yX5_laysParts, Cond.code yX5_laysParts cX5_laysParts 5 none, Cond.methodLink RX5 121 yX5_copies, Cond.instanceMethod yX5_copies, Cond.selects RX5 yX5_copies yX5_copies, Cond.code yX5_copies cX5_copies 4 none, Cond.methodLink RX5 165 yX5_numberOf, Cond.instanceMethod yX5_numberOf, Cond.selects RX5 yX5_numberOf yX5_numberOf, Cond.code yX5_numberOf cX5_numberOf 4 (some .int)]
def wsX5_least : List Cond := .code yX5_least cX5_least 8 (some .int) :: ((wsX5_least_r1 ++ (wsX5_least_r2 ++ (wsX5_least_r3 ++ wsX5_least_r4))) ++ wsX50)
theorem mi_wsX5_least_wsX5_least_r1 : ∀ w ∈ wsX5_least_r1, w ∈ wsX5_least := fun _ h => (List.mem_cons_of_mem _ (List.mem_append_left _ (List.mem_append_left _ h)))
theorem mi_wsX5_least_wsX50 : ∀ w ∈ wsX50, w ∈ wsX5_least := fun _ h => (List.mem_cons_of_mem _ (List.mem_append_right _ h))
set_option maxRecDepth 20000 in
theorem ggX5_least_X5_isRange : GoodIn wsX5_least wsX5_isRange := goodIn_k _ [(wsX5_least_r1, [7, 8]), (wsX50, [0, 1, 2, 3, 4, 5, 6, 7, 8, 9, 10, 11, 12, 13, 14, 15, 16, 17, 18, 19, 20, 21, 22, 23, 24, 25, 26, 27, 28, 29])] (gk_c mi_wsX5_least_wsX5_least_r1 (gk_c mi_wsX5_least_wsX50 gk_n)) rfl (by decide +kernel)
set_option maxRecDepth 20000 in
theorem gX5_least_X5_isRange : GoodIn wsX5_least (wsV RX5 142 RX5 yX5_isRange wsX5_isRange) := goodIn_app (goodIn_k _ [(wsX5_least_r1, [3, 4, 5, 6])] (gk_c mi_wsX5_least_wsX5_least_r1 gk_n) rfl (by decide +kernel)) ggX5_least_X5_isRange
set_option maxRecDepth 20000 in
theorem ggX5_least_X5_isShare : GoodIn wsX5_least wsX5_isShare := goodIn_k _ [(wsX5_least_r1, [11, 12, 13, 6, 14])] (gk_c mi_wsX5_least_wsX5_least_r1 gk_n) rfl (by decide +kernel)
set_option maxRecDepth 20000 in
theorem gX5_least_X5_isShare : GoodIn wsX5_least (va_wsS RX5 184 yX5_isShare wsX5_isShare) := goodIn_app (goodIn_k _ [(wsX5_least_r1, [9, 10, 6])] (gk_c mi_wsX5_least_wsX5_least_r1 gk_n) rfl (by decide +kernel)) ggX5_least_X5_isShare
theorem mi_wsX5_least_wsX5_least_r2 : ∀ w ∈ wsX5_least_r2, w ∈ wsX5_least := fun _ h => (List.mem_cons_of_mem _ (List.mem_append_left _ (List.mem_append_right _ (List.mem_append_left _ h))))
set_option maxRecDepth 20000 in
theorem ggX5_least_X5_laysHeavy : GoodIn wsX5_least wsX5_laysHeavy := goodIn_k _ [(wsX5_least_r1, [18, 1, 19, 20, 21, 22, 6, 23]), (wsX5_least_r2, [0, 1, 2, 3, 4]), (wsX5_least_r1, [2]), (wsX50, [0, 1, 2, 3, 4, 5, 6, 7, 8, 9, 10, 11, 12, 13, 14, 15, 16, 17, 18, 19, 20, 21, 22, 23, 24, 25, 26, 27, 28, 29])] (gk_c mi_wsX5_least_wsX5_least_r1 (gk_c mi_wsX5_least_wsX5_least_r2 (gk_c mi_wsX5_least_wsX5_least_r1 (gk_c mi_wsX5_least_wsX50 gk_n)))) rfl (by decide +kernel)
set_option maxRecDepth 20000 in
theorem gX5_least_X5_laysHeavy : GoodIn wsX5_least (wsV RX5 190 RX5 yX5_laysHeavy wsX5_laysHeavy) := goodIn_app (goodIn_k _ [(wsX5_least_r1, [15, 16, 17, 6])] (gk_c mi_wsX5_least_wsX5_least_r1 gk_n) rfl (by decide +kernel)) ggX5_least_X5_laysHeavy
theorem mi_wsX5_least_wsX5_least_r3 : ∀ w ∈ wsX5_least_r3, w ∈ wsX5_least := fun _ h => (List.mem_cons_of_mem _ (List.mem_append_left _ (List.mem_append_right _ (List.mem_append_right _ (List.mem_append_left _ h)))))
set_option maxRecDepth 20000 in
theorem ggX5_least_X5_laysAll : GoodIn wsX5_least wsX5_laysAll := goodIn_k _ [(wsX5_least_r2, [8, 9]), (wsX5_least_r1, [8]), (wsX5_least_r2, [10, 11, 12]), (wsX5_least_r1, [6]), (wsX5_least_r2, [13, 14, 15]), (wsX5_least_r1, [19]), (wsX5_least_r2, [16, 17, 18, 19, 20, 21, 22, 23]), (wsX5_least_r3, [0, 1, 2, 3, 4, 5, 6, 7, 8, 9, 10, 11, 12, 13, 14, 15, 16, 17, 18, 19]), (wsX50, [0, 1, 2, 3, 4, 5, 6, 7, 8, 9, 10, 11, 12, 13, 14, 15, 16, 17, 18, 19, 20, 21, 22, 23, 24, 25, 26, 27, 28, 29])] (gk_c mi_wsX5_least_wsX5_least_r2 (gk_c mi_wsX5_least_wsX5_least_r1 (gk_c mi_wsX5_least_wsX5_least_r2 (gk_c mi_wsX5_least_wsX5_least_r1 (gk_c mi_wsX5_least_wsX5_least_r2 (gk_c mi_wsX5_least_wsX5_least_r1 (gk_c mi_wsX5_least_wsX5_least_r2 (gk_c mi_wsX5_least_wsX5_least_r3 (gk_c mi_wsX5_least_wsX50 gk_n))))))))) rfl (by decide +kernel)
set_option maxRecDepth 20000 in
theorem gX5_least_X5_laysAll : GoodIn wsX5_least (wsV RX5 124 RX5 yX5_laysAll wsX5_laysAll) := goodIn_app (goodIn_k _ [(wsX5_least_r2, [5, 6, 7]), (wsX5_least_r1, [6])] (gk_c mi_wsX5_least_wsX5_least_r2 (gk_c mi_wsX5_least_wsX5_least_r1 gk_n)) rfl (by decide +kernel)) ggX5_least_X5_laysAll
theorem mi_wsX5_least_wsX5_least_r4 : ∀ w ∈ wsX5_least_r4, w ∈ wsX5_least := fun _ h => (List.mem_cons_of_mem _ (List.mem_append_left _ (List.mem_append_right _ (List.mem_append_right _ (List.mem_append_right _ h)))))
set_option maxRecDepth 20000 in
theorem ggX5_least_X5_folds : GoodIn wsX5_least wsX5_folds := goodIn_k _ [(wsX5_least_r3, [23]), (wsX5_least_r4, [0, 1, 2, 3, 4]), (wsX5_least_r1, [6]), (wsX5_least_r4, [5]), (wsX5_least_r2, [9, 14, 15]), (wsX5_least_r4, [6, 7, 8, 9]), (wsX5_least_r2, [20, 21, 22, 23]), (wsX5_least_r3, [0, 1, 2, 3, 4, 5, 6, 7, 8, 9, 10, 11, 12, 13, 14, 15, 16, 17, 18, 19]), (wsX50, [0, 1, 2, 3, 4, 5, 6, 7, 8, 9, 10, 11, 12, 13, 14, 15, 16, 17, 18, 19, 20, 21, 22, 23, 24, 25, 26, 27, 28, 29])] (gk_c mi_wsX5_least_wsX5_least_r3 (gk_c mi_wsX5_least_wsX5_least_r4 (gk_c mi_wsX5_least_wsX5_least_r1 (gk_c mi_wsX5_least_wsX5_least_r4 (gk_c mi_wsX5_least_wsX5_least_r2 (gk_c mi_wsX5_least_wsX5_least_r4 (gk_c mi_wsX5_least_wsX5_least_r2 (gk_c mi_wsX5_least_wsX5_least_r3 (gk_c mi_wsX5_least_wsX50 gk_n))))))))) rfl (by decide +kernel)
set_option maxRecDepth 20000 in
theorem gX5_least_X5_folds : GoodIn wsX5_least (wsV RX5 168 RX5 yX5_folds wsX5_folds) := goodIn_app (goodIn_k _ [(wsX5_least_r3, [20, 21, 22]), (wsX5_least_r1, [6])] (gk_c mi_wsX5_least_wsX5_least_r3 (gk_c mi_wsX5_least_wsX5_least_r1 gk_n)) rfl (by decide +kernel)) ggX5_least_X5_folds
set_option maxRecDepth 20000 in
theorem ggX5_least_X5_numberOf : GoodIn wsX5_least wsX5_numberOf := goodIn_k _ [(wsX5_least_r4, [13]), (wsX5_least_r2, [20, 23]), (wsX5_least_r3, [0]), (wsX50, [0, 1, 2, 3, 4, 5, 6, 7, 8, 9, 10, 11, 12, 13, 14, 15, 16, 17, 18, 19, 20, 21, 22, 23, 24, 25, 26, 27, 28, 29])] (gk_c mi_wsX5_least_wsX5_least_r4 (gk_c mi_wsX5_least_wsX5_least_r2 (gk_c mi_wsX5_least_wsX5_least_r3 (gk_c mi_wsX5_least_wsX50 gk_n)))) rfl (by decide +kernel)
set_option maxRecDepth 20000 in
theorem gX5_least_X5_numberOf : GoodIn wsX5_least (wsV RX5 165 RX5 yX5_numberOf wsX5_numberOf) := goodIn_app (goodIn_k _ [(wsX5_least_r4, [10, 11, 12]), (wsX5_least_r1, [6])] (gk_c mi_wsX5_least_wsX5_least_r4 (gk_c mi_wsX5_least_wsX5_least_r1 gk_n)) rfl (by decide +kernel)) ggX5_least_X5_numberOf
def dt_cX5_least_0 : List (Nat × Instr × Nat) := [(0, .aload_n 0, 1), (1, .iconst 0, 1), (2, .putfield 77, 3), (5, .aload_n 0, 1), (6, .iload_n 1, 1), (7, .iload_n 2, 1), (8, .invokevirtual 142, 3), (11, .ifCond .eq 20, 3), (14, .iload_n 2, 1), (15, .iload_n 1, 1), (16, .isub, 1), (17, .bipush 64, 2), (19, .if_icmp .gt 12, 3), (22, .iload_n 3, 1), (23, .iload 4, 2), (25, .invokestatic 184, 3), (28, .ifCond .ne 5, 3), (31, .iconst (-1), 1), (32, .ireturn, 1), (33, .aload_n 0, 1), (34, .iload_n 1, 1), (35, .iload_n 2, 1), (36, .iconst 0, 1), (37, .iconst 0, 1), (38, .iload_n 3, 1), (39, .iload 4, 2), (41, .invokevirtual 190, 3), (44, .iconst 1, 1), (45, .istore 5, 2), (47, .iload 5, 2), (49, .bipush 6, 2), (51, .if_icmp .gt 84, 3), (54, .aload_n 0, 1), (55, .iload 5, 2), (57, .invokevirtual 124, 3), (60, .aload_n 0, 1), (61, .iload_n 1, 1), (62, .iload_n 2, 1), (63, .sipush 320, 3), (66, .iload 5, 2), (68, .invokevirtual 168, 3), (71, .iconst 1, 1), (72, .istore 6, 2), (74, .iconst 0, 1), (75, .istore 7, 2), (77, .iload 7, 2), (79, .aload_n 0, 1), (80, .getfield 178, 3), (83, .if_icmp .ge 38, 3), (86, .iload 6, 2), (88, .ifCond .eq 33, 3), (91, .aload_n 0, 1), (92, .sipush 320, 3), (95, .aload_n 0, 1), (96, .getfield 62, 3), (99, .iload 7, 2), (101, .iaload, 1), (102, .invokevirtual 165, 3), (105, .ifCond .le 7, 3), (108, .iconst 1, 1)]
theorem da_cX5_least_0 : dk_all cX5_least dt_cX5_least_0 = true := by decide +kernel
theorem dX5_least_0 : decode cX5_least 0 = .ok (.aload_n 0, 1) := dk_get _ da_cX5_least_0 0 _ _ _ rfl
theorem dX5_least_1 : decode cX5_least 1 = .ok (.iconst 0, 1) := dk_get _ da_cX5_least_0 1 _ _ _ rfl
theorem dX5_least_2 : decode cX5_least 2 = .ok (.putfield 77, 3) := dk_get _ da_cX5_least_0 2 _ _ _ rfl
theorem dX5_least_5 : decode cX5_least 5 = .ok (.aload_n 0, 1) := dk_get _ da_cX5_least_0 3 _ _ _ rfl
theorem dX5_least_6 : decode cX5_least 6 = .ok (.iload_n 1, 1) := dk_get _ da_cX5_least_0 4 _ _ _ rfl
theorem dX5_least_7 : decode cX5_least 7 = .ok (.iload_n 2, 1) := dk_get _ da_cX5_least_0 5 _ _ _ rfl
theorem dX5_least_8 : decode cX5_least 8 = .ok (.invokevirtual 142, 3) := dk_get _ da_cX5_least_0 6 _ _ _ rfl
theorem dX5_least_11 : decode cX5_least 11 = .ok (.ifCond .eq 20, 3) := dk_get _ da_cX5_least_0 7 _ _ _ rfl
theorem dX5_least_14 : decode cX5_least 14 = .ok (.iload_n 2, 1) := dk_get _ da_cX5_least_0 8 _ _ _ rfl
theorem dX5_least_15 : decode cX5_least 15 = .ok (.iload_n 1, 1) := dk_get _ da_cX5_least_0 9 _ _ _ rfl
theorem dX5_least_16 : decode cX5_least 16 = .ok (.isub, 1) := dk_get _ da_cX5_least_0 10 _ _ _ rfl
theorem dX5_least_17 : decode cX5_least 17 = .ok (.bipush 64, 2) := dk_get _ da_cX5_least_0 11 _ _ _ rfl
theorem dX5_least_19 : decode cX5_least 19 = .ok (.if_icmp .gt 12, 3) := dk_get _ da_cX5_least_0 12 _ _ _ rfl
theorem dX5_least_22 : decode cX5_least 22 = .ok (.iload_n 3, 1) := dk_get _ da_cX5_least_0 13 _ _ _ rfl
theorem dX5_least_23 : decode cX5_least 23 = .ok (.iload 4, 2) := dk_get _ da_cX5_least_0 14 _ _ _ rfl
theorem dX5_least_25 : decode cX5_least 25 = .ok (.invokestatic 184, 3) := dk_get _ da_cX5_least_0 15 _ _ _ rfl
theorem dX5_least_28 : decode cX5_least 28 = .ok (.ifCond .ne 5, 3) := dk_get _ da_cX5_least_0 16 _ _ _ rfl
theorem dX5_least_31 : decode cX5_least 31 = .ok (.iconst (-1), 1) := dk_get _ da_cX5_least_0 17 _ _ _ rfl
theorem dX5_least_32 : decode cX5_least 32 = .ok (.ireturn, 1) := dk_get _ da_cX5_least_0 18 _ _ _ rfl
theorem dX5_least_33 : decode cX5_least 33 = .ok (.aload_n 0, 1) := dk_get _ da_cX5_least_0 19 _ _ _ rfl
theorem dX5_least_34 : decode cX5_least 34 = .ok (.iload_n 1, 1) := dk_get _ da_cX5_least_0 20 _ _ _ rfl
theorem dX5_least_35 : decode cX5_least 35 = .ok (.iload_n 2, 1) := dk_get _ da_cX5_least_0 21 _ _ _ rfl
theorem dX5_least_36 : decode cX5_least 36 = .ok (.iconst 0, 1) := dk_get _ da_cX5_least_0 22 _ _ _ rfl
theorem dX5_least_37 : decode cX5_least 37 = .ok (.iconst 0, 1) := dk_get _ da_cX5_least_0 23 _ _ _ rfl
theorem dX5_least_38 : decode cX5_least 38 = .ok (.iload_n 3, 1) := dk_get _ da_cX5_least_0 24 _ _ _ rfl
theorem dX5_least_39 : decode cX5_least 39 = .ok (.iload 4, 2) := dk_get _ da_cX5_least_0 25 _ _ _ rfl
theorem dX5_least_41 : decode cX5_least 41 = .ok (.invokevirtual 190, 3) := dk_get _ da_cX5_least_0 26 _ _ _ rfl
theorem dX5_least_44 : decode cX5_least 44 = .ok (.iconst 1, 1) := dk_get _ da_cX5_least_0 27 _ _ _ rfl
theorem dX5_least_45 : decode cX5_least 45 = .ok (.istore 5, 2) := dk_get _ da_cX5_least_0 28 _ _ _ rfl
theorem dX5_least_47 : decode cX5_least 47 = .ok (.iload 5, 2) := dk_get _ da_cX5_least_0 29 _ _ _ rfl
theorem dX5_least_49 : decode cX5_least 49 = .ok (.bipush 6, 2) := dk_get _ da_cX5_least_0 30 _ _ _ rfl
theorem dX5_least_51 : decode cX5_least 51 = .ok (.if_icmp .gt 84, 3) := dk_get _ da_cX5_least_0 31 _ _ _ rfl
theorem dX5_least_54 : decode cX5_least 54 = .ok (.aload_n 0, 1) := dk_get _ da_cX5_least_0 32 _ _ _ rfl
theorem dX5_least_55 : decode cX5_least 55 = .ok (.iload 5, 2) := dk_get _ da_cX5_least_0 33 _ _ _ rfl
theorem dX5_least_57 : decode cX5_least 57 = .ok (.invokevirtual 124, 3) := dk_get _ da_cX5_least_0 34 _ _ _ rfl
theorem dX5_least_60 : decode cX5_least 60 = .ok (.aload_n 0, 1) := dk_get _ da_cX5_least_0 35 _ _ _ rfl
theorem dX5_least_61 : decode cX5_least 61 = .ok (.iload_n 1, 1) := dk_get _ da_cX5_least_0 36 _ _ _ rfl
theorem dX5_least_62 : decode cX5_least 62 = .ok (.iload_n 2, 1) := dk_get _ da_cX5_least_0 37 _ _ _ rfl
theorem dX5_least_63 : decode cX5_least 63 = .ok (.sipush 320, 3) := dk_get _ da_cX5_least_0 38 _ _ _ rfl
theorem dX5_least_66 : decode cX5_least 66 = .ok (.iload 5, 2) := dk_get _ da_cX5_least_0 39 _ _ _ rfl
theorem dX5_least_68 : decode cX5_least 68 = .ok (.invokevirtual 168, 3) := dk_get _ da_cX5_least_0 40 _ _ _ rfl
theorem dX5_least_71 : decode cX5_least 71 = .ok (.iconst 1, 1) := dk_get _ da_cX5_least_0 41 _ _ _ rfl
theorem dX5_least_72 : decode cX5_least 72 = .ok (.istore 6, 2) := dk_get _ da_cX5_least_0 42 _ _ _ rfl
theorem dX5_least_74 : decode cX5_least 74 = .ok (.iconst 0, 1) := dk_get _ da_cX5_least_0 43 _ _ _ rfl
theorem dX5_least_75 : decode cX5_least 75 = .ok (.istore 7, 2) := dk_get _ da_cX5_least_0 44 _ _ _ rfl
theorem dX5_least_77 : decode cX5_least 77 = .ok (.iload 7, 2) := dk_get _ da_cX5_least_0 45 _ _ _ rfl
theorem dX5_least_79 : decode cX5_least 79 = .ok (.aload_n 0, 1) := dk_get _ da_cX5_least_0 46 _ _ _ rfl
theorem dX5_least_80 : decode cX5_least 80 = .ok (.getfield 178, 3) := dk_get _ da_cX5_least_0 47 _ _ _ rfl
theorem dX5_least_83 : decode cX5_least 83 = .ok (.if_icmp .ge 38, 3) := dk_get _ da_cX5_least_0 48 _ _ _ rfl
theorem dX5_least_86 : decode cX5_least 86 = .ok (.iload 6, 2) := dk_get _ da_cX5_least_0 49 _ _ _ rfl
theorem dX5_least_88 : decode cX5_least 88 = .ok (.ifCond .eq 33, 3) := dk_get _ da_cX5_least_0 50 _ _ _ rfl
theorem dX5_least_91 : decode cX5_least 91 = .ok (.aload_n 0, 1) := dk_get _ da_cX5_least_0 51 _ _ _ rfl
theorem dX5_least_92 : decode cX5_least 92 = .ok (.sipush 320, 3) := dk_get _ da_cX5_least_0 52 _ _ _ rfl
theorem dX5_least_95 : decode cX5_least 95 = .ok (.aload_n 0, 1) := dk_get _ da_cX5_least_0 53 _ _ _ rfl
theorem dX5_least_96 : decode cX5_least 96 = .ok (.getfield 62, 3) := dk_get _ da_cX5_least_0 54 _ _ _ rfl
theorem dX5_least_99 : decode cX5_least 99 = .ok (.iload 7, 2) := dk_get _ da_cX5_least_0 55 _ _ _ rfl
theorem dX5_least_101 : decode cX5_least 101 = .ok (.iaload, 1) := dk_get _ da_cX5_least_0 56 _ _ _ rfl
theorem dX5_least_102 : decode cX5_least 102 = .ok (.invokevirtual 165, 3) := dk_get _ da_cX5_least_0 57 _ _ _ rfl
theorem dX5_least_105 : decode cX5_least 105 = .ok (.ifCond .le 7, 3) := dk_get _ da_cX5_least_0 58 _ _ _ rfl
theorem dX5_least_108 : decode cX5_least 108 = .ok (.iconst 1, 1) := dk_get _ da_cX5_least_0 59 _ _ _ rfl
def dt_cX5_least_1 : List (Nat × Instr × Nat) := [(109, .goto 4, 3), (112, .iconst 0, 1), (113, .istore 6, 2), (115, .iinc 7 1, 3), (118, .goto (-41), 3), (121, .iload 6, 2), (123, .ifCond .eq 6, 3), (126, .iload 5, 2), (128, .ireturn, 1), (129, .iinc 5 1, 3), (132, .goto (-85), 3), (135, .bipush (-2), 2), (137, .ireturn, 1)]
theorem da_cX5_least_1 : dk_all cX5_least dt_cX5_least_1 = true := by decide +kernel
theorem dX5_least_109 : decode cX5_least 109 = .ok (.goto 4, 3) := dk_get _ da_cX5_least_1 0 _ _ _ rfl
theorem dX5_least_112 : decode cX5_least 112 = .ok (.iconst 0, 1) := dk_get _ da_cX5_least_1 1 _ _ _ rfl
theorem dX5_least_113 : decode cX5_least 113 = .ok (.istore 6, 2) := dk_get _ da_cX5_least_1 2 _ _ _ rfl
theorem dX5_least_115 : decode cX5_least 115 = .ok (.iinc 7 1, 3) := dk_get _ da_cX5_least_1 3 _ _ _ rfl
theorem dX5_least_118 : decode cX5_least 118 = .ok (.goto (-41), 3) := dk_get _ da_cX5_least_1 4 _ _ _ rfl
theorem dX5_least_121 : decode cX5_least 121 = .ok (.iload 6, 2) := dk_get _ da_cX5_least_1 5 _ _ _ rfl
theorem dX5_least_123 : decode cX5_least 123 = .ok (.ifCond .eq 6, 3) := dk_get _ da_cX5_least_1 6 _ _ _ rfl
theorem dX5_least_126 : decode cX5_least 126 = .ok (.iload 5, 2) := dk_get _ da_cX5_least_1 7 _ _ _ rfl
theorem dX5_least_128 : decode cX5_least 128 = .ok (.ireturn, 1) := dk_get _ da_cX5_least_1 8 _ _ _ rfl
theorem dX5_least_129 : decode cX5_least 129 = .ok (.iinc 5 1, 3) := dk_get _ da_cX5_least_1 9 _ _ _ rfl
theorem dX5_least_132 : decode cX5_least 132 = .ok (.goto (-85), 3) := dk_get _ da_cX5_least_1 10 _ _ _ rfl
theorem dX5_least_135 : decode cX5_least 135 = .ok (.bipush (-2), 2) := dk_get _ da_cX5_least_1 11 _ _ _ rfl
theorem dX5_least_137 : decode cX5_least 137 = .ok (.ireturn, 1) := dk_get _ da_cX5_least_1 12 _ _ _ rfl

