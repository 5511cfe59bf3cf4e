abbrev cX5_laysAll : ByteArray := prog_7_method_14_code
def yX5_laysAll : MethodName := ⟨RX5, "laysAll", "(I)V"⟩
def wsX5_laysAll_r1 : List Cond := [Cond.fieldLink RX5 101 "MajorityIndexModel" "nodes" "I", Cond.fieldLink RX5 84 "MajorityIndexModel" "n" "I", Cond.methodLink RX5 107 yX5_lays, Cond.instanceMethod yX5_lays, Cond.selects RX5 yX5_lays yX5_lays, Cond.initialized RX5, Cond.code yX5_lays cX5_lays 8 (some .int), Cond.fieldLink RX5 38 "MajorityIndexModel" "nodeL" "[I", Cond.fieldLink RX5 41 "MajorityIndexModel" "nodeR" "[I", Cond.fieldLink RX5 7 "MajorityIndexModel" "row" "[I", Cond.methodLink RX5 104 yX5_one, Cond.instanceMethod yX5_one, Cond.selects RX5 yX5_one yX5_one, Cond.code yX5_one cX5_one 3 none, Cond.fieldLink RX5 17 "MajorityIndexModel" "many" "[I", Cond.fieldLink RX5 20 "MajorityIndexModel" "loss" "[I", Cond.fieldLink RX5 23 "MajorityIndexModel" "less" "[I", Cond.fieldLink RX5 26 "MajorityIndexModel" "voteValue" "[I", Cond.fieldLink RX5 29 "MajorityIndexModel" "voteNumber" "[I", Cond.methodLink RX5 111 yX5_together, Cond.instanceMethod yX5_together, Cond.selects RX5 yX5_together yX5_together, Cond.code yX5_together cX5_together 9 none, Cond.fieldLink RX5 87 "MajorityIndexModel" "allMany" "I"]
def wsX5_laysAll_r2 : List Cond := [Cond.fieldLink RX5 35 "MajorityIndexModel" "allNumber" "[I", Cond.fieldLink RX5 32 "MajorityIndexModel" "allValue" "[I", Cond.methodLink RX5 94 yX5_adds, Cond.instanceMethod yX5_adds, Cond.selects RX5 yX5_adds yX5_adds, Cond.code yX5_adds cX5_adds 4 none, Cond.methodLink RX5 98 yX5_sorts, Cond.instanceMethod yX5_sorts, Cond.selects RX5 yX5_sorts yX5_sorts, Cond.code yX5_sorts cX5_sorts 4 none, Cond.methodLink RX5 90 yX5_isAhead, Cond.instanceMethod yX5_isAhead, Cond.selects RX5 yX5_isAhead yX5_isAhead, Cond.code yX5_isAhead cX5_isAhead 3 (some .boolean)]
def wsX5_laysAll : List Cond := .code yX5_laysAll cX5_laysAll 2 none :: ((wsX5_laysAll_r1 ++ wsX5_laysAll_r2) ++ wsX50)
theorem mi_wsX5_laysAll_wsX5_laysAll_r1 : ∀ w ∈ wsX5_laysAll_r1, w ∈ wsX5_laysAll := fun _ h => (List.mem_cons_of_mem _ (List.mem_append_left _ (List.mem_append_left _ h)))
theorem mi_wsX5_laysAll_wsX5_laysAll_r2 : ∀ w ∈ wsX5_laysAll_r2, w ∈ wsX5_laysAll := fun _ h => (List.mem_cons_of_mem _ (List.mem_append_left _ (List.mem_append_right _ h)))
theorem mi_wsX5_laysAll_wsX50 : ∀ w ∈ wsX50, w ∈ wsX5_laysAll := fun _ h => (List.mem_cons_of_mem _ (List.mem_append_right _ h))
set_option maxRecDepth 20000 in
theorem ggX5_laysAll_X5_lays : GoodIn wsX5_laysAll wsX5_lays := goodIn_k _ [(wsX5_laysAll_r1, [6, 0, 7, 8, 9, 10, 11, 12, 5, 13, 14, 15, 16, 17, 18, 2, 3, 4, 19, 20, 21, 22, 23]), (wsX5_laysAll_r2, [0, 1, 2, 3, 4, 5, 6, 7, 8, 9, 10, 11, 12, 13]), (wsX50, [0, 1, 2, 3, 4, 5, 6, 7, 8, 9, 10, 11, 12, 13, 14, 15, 16, 17, 18, 19, 20, 21, 22, 23, 24, 25, 26, 27, 28, 29])] (gk_c mi_wsX5_laysAll_wsX5_laysAll_r1 (gk_c mi_wsX5_laysAll_wsX5_laysAll_r2 (gk_c mi_wsX5_laysAll_wsX50 gk_n))) rfl (by decide +kernel)
set_option maxRecDepth 20000 in
theorem gX5_laysAll_X5_lays : GoodIn wsX5_laysAll (wsV RX5 107 RX5 yX5_lays wsX5_lays) := goodIn_app (goodIn_k _ [(wsX5_laysAll_r1, [2, 3, 4, 5])] (gk_c mi_wsX5_laysAll_wsX5_laysAll_r1 gk_n) rfl (by decide +kernel)) ggX5_laysAll_X5_lays
def dt_cX5_laysAll_0 : List (Nat × Instr × Nat) := [(0, .aload_n 0, 1), (1, .iconst 0, 1), (2, .putfield 101, 3), (5, .aload_n 0, 1), (6, .getfield 84, 3), (9, .ifCond .le 14, 3), (12, .aload_n 0, 1), (13, .iconst 0, 1), (14, .aload_n 0, 1), (15, .getfield 84, 3), (18, .iload_n 1, 1), (19, .invokevirtual 107, 3), (22, .pop, 1), (23, .return_, 1)]
theorem da_cX5_laysAll_0 : dk_all cX5_laysAll dt_cX5_laysAll_0 = true := by decide +kernel
theorem dX5_laysAll_0 : decode cX5_laysAll 0 = .ok (.aload_n 0, 1) := dk_get _ da_cX5_laysAll_0 0 _ _ _ rfl
theorem dX5_laysAll_1 : decode cX5_laysAll 1 = .ok (.iconst 0, 1) := dk_get _ da_cX5_laysAll_0 1 _ _ _ rfl
theorem dX5_laysAll_2 : decode cX5_laysAll 2 = .ok (.putfield 101, 3) := dk_get _ da_cX5_laysAll_0 2 _ _ _ rfl
theorem dX5_laysAll_5 : decode cX5_laysAll 5 = .ok (.aload_n 0, 1) := dk_get _ da_cX5_laysAll_0 3 _ _ _ rfl
theorem dX5_laysAll_6 : decode cX5_laysAll 6 = .ok (.getfield 84, 3) := dk_get _ da_cX5_laysAll_0 4 _ _ _ rfl
theorem dX5_laysAll_9 : decode cX5_laysAll 9 = .ok (.ifCond .le 14, 3) := dk_get _ da_cX5_laysAll_0 5 _ _ _ rfl
theorem dX5_laysAll_12 : decode cX5_laysAll 12 = .ok (.aload_n 0, 1) := dk_get _ da_cX5_laysAll_0 6 _ _ _ rfl
theorem dX5_laysAll_13 : decode cX5_laysAll 13 = .ok (.iconst 0, 1) := dk_get _ da_cX5_laysAll_0 7 _ _ _ rfl
theorem dX5_laysAll_14 : decode cX5_laysAll 14 = .ok (.aload_n 0, 1) := dk_get _ da_cX5_laysAll_0 8 _ _ _ rfl
theorem dX5_laysAll_15 : decode cX5_laysAll 15 = .ok (.getfield 84, 3) := dk_get _ da_cX5_laysAll_0 9 _ _ _ rfl
theorem dX5_laysAll_18 : decode cX5_laysAll 18 = .ok (.iload_n 1, 1) := dk_get _ da_cX5_laysAll_0 10 _ _ _ rfl
theorem dX5_laysAll_19 : decode cX5_laysAll 19 = .ok (.invokevirtual 107, 3) := dk_get _ da_cX5_laysAll_0 11 _ _ _ rfl
theorem dX5_laysAll_22 : decode cX5_laysAll 22 = .ok (.pop, 1) := dk_get _ da_cX5_laysAll_0 12 _ _ _ rfl
theorem dX5_laysAll_23 : decode cX5_laysAll 23 = .ok (.return_, 1) := dk_get _ da_cX5_laysAll_0 13 _ _ _ rfl

