abbrev cX5_laysParts : ByteArray := prog_7_method_16_code
def yX5_laysParts : MethodName := ⟨RX5, "laysParts", "(II)V"⟩
abbrev cX5_folds : ByteArray := prog_7_method_17_code
def yX5_folds : MethodName := ⟨RX5, "folds", "(IIII)V"⟩
def wsX5_laysParts : List Cond := .code yX5_laysParts cX5_laysParts 5 none :: ([.fieldLink RX5 115 "MajorityIndexModel" "partMany" "I", .fieldLink RX5 101 "MajorityIndexModel" "nodes" "I", .fieldLink RX5 38 "MajorityIndexModel" "nodeL" "[I", .fieldLink RX5 41 "MajorityIndexModel" "nodeR" "[I", .fieldLink RX5 44 "MajorityIndexModel" "part" "[I"] ++ wsX50)
def wsX5_folds_r1 : List Cond := [Cond.fieldLink RX5 44 "MajorityIndexModel" "part" "[I", Cond.fieldLink RX5 115 "MajorityIndexModel" "partMany" "I", Cond.methodLink RX5 118 yX5_laysParts, Cond.instanceMethod yX5_laysParts, Cond.selects RX5 yX5_laysParts yX5_laysParts, Cond.initialized RX5, Cond.code yX5_laysParts cX5_laysParts 5 none, Cond.fieldLink RX5 101 "MajorityIndexModel" "nodes" "I", Cond.fieldLink RX5 38 "MajorityIndexModel" "nodeL" "[I", Cond.fieldLink RX5 41 "MajorityIndexModel" "nodeR" "[I", Cond.methodLink RX5 121 yX5_copies, Cond.instanceMethod yX5_copies, Cond.selects RX5 yX5_copies yX5_copies, Cond.code yX5_copies cX5_copies 4 none, Cond.fieldLink RX5 17 "MajorityIndexModel" "many" "[I", Cond.fieldLink RX5 20 "MajorityIndexModel" "loss" "[I", Cond.fieldLink RX5 23 "MajorityIndexModel" "less" "[I", Cond.fieldLink RX5 26 "MajorityIndexModel" "voteValue" "[I", Cond.fieldLink RX5 29 "MajorityIndexModel" "voteNumber" "[I", Cond.methodLink RX5 111 yX5_together, Cond.instanceMethod yX5_together, Cond.selects RX5 yX5_together yX5_together, Cond.code yX5_together cX5_together 9 none, Cond.fieldLink RX5 87 "MajorityIndexModel" "allMany" "I"]
def wsX5_folds_r2 : List Cond := [Cond.fieldLink RX5 35 "MajorityIndexModel" "allNumber" "[I", Cond.fieldLink RX5 32 "MajorityIndexModel" "allValue" "[I", Cond.methodLink RX5 94 yX5_adds, Cond.instanceMethod yX5_adds, Cond.selects RX5 yX5_adds yX5_adds, Cond.code yX5_adds cX5_adds 4 none, Cond.methodLink RX5 98 yX5_sorts, Cond.instanceMethod yX5_sorts, Cond.selects RX5 yX5_sorts yX5_sorts, Cond.code yX5_sorts cX5_sorts 4 none, Cond.methodLink RX5 90 yX5_isAhead, Cond.instanceMethod yX5_isAhead, Cond.selects RX5 yX5_isAhead yX5_isAhead, Cond.code yX5_isAhead cX5_isAhead 3 (some .boolean)]
def wsX5_folds : List Cond := .code yX5_folds cX5_folds 6 none :: ((wsX5_folds_r1 ++ wsX5_folds_r2) ++ wsX50)
def dt_cX5_laysParts_0 : List (Nat × Instr × Nat) := [(0, .aload_n 0, 1), (1, .iconst 0, 1), (2, .putfield 115, 3), (5, .iload_n 1, 1), (6, .istore_n 3, 1), (7, .iconst 0, 1), (8, .istore 4, 2), (10, .iload 4, 2), (12, .aload_n 0, 1), (13, .getfield 101, 3), (16, .if_icmp .ge 63, 3), (19, .aload_n 0, 1), (20, .getfield 38, 3), (23, .iload 4, 2), (25, .iaload, 1), (26, .iload_n 3, 1), (27, .if_icmp .ne 46, 3), (30, .aload_n 0, 1), (31, .getfield 41, 3), (34, .iload 4, 2), (36, .iaload, 1), (37, .iload_n 2, 1), (38, .if_icmp .le 6, 3), (41, .goto 32, 3), (44, .aload_n 0, 1), (45, .getfield 44, 3), (48, .aload_n 0, 1), (49, .getfield 115, 3), (52, .iload 4, 2), (54, .iastore, 1), (55, .aload_n 0, 1), (56, .dup, 1), (57, .getfield 115, 3), (60, .iconst 1, 1), (61, .iadd, 1), (62, .putfield 115, 3), (65, .aload_n 0, 1), (66, .getfield 41, 3), (69, .iload 4, 2), (71, .iaload, 1), (72, .istore_n 3, 1), (73, .iinc 4 1, 3), (76, .goto (-66), 3), (79, .return_, 1)]
theorem da_cX5_laysParts_0 : dk_all cX5_laysParts dt_cX5_laysParts_0 = true := by decide +kernel
theorem dX5_laysParts_0 : decode cX5_laysParts 0 = .ok (.aload_n 0, 1) := dk_get _ da_cX5_laysParts_0 0 _ _ _ rfl
theorem dX5_laysParts_1 : decode cX5_laysParts 1 = .ok (.iconst 0, 1) := dk_get _ da_cX5_laysParts_0 1 _ _ _ rfl
theorem dX5_laysParts_2 : decode cX5_laysParts 2 = .ok (.putfield 115, 3) := dk_get _ da_cX5_laysParts_0 2 _ _ _ rfl
theorem dX5_laysParts_5 : decode cX5_laysParts 5 = .ok (.iload_n 1, 1) := dk_get _ da_cX5_laysParts_0 3 _ _ _ rfl
theorem dX5_laysParts_6 : decode cX5_laysParts 6 = .ok (.istore_n 3, 1) := dk_get _ da_cX5_laysParts_0 4 _ _ _ rfl
theorem dX5_laysParts_7 : decode cX5_laysParts 7 = .ok (.iconst 0, 1) := dk_get _ da_cX5_laysParts_0 5 _ _ _ rfl
theorem dX5_laysParts_8 : decode cX5_laysParts 8 = .ok (.istore 4, 2) := dk_get _ da_cX5_laysParts_0 6 _ _ _ rfl
theorem dX5_laysParts_10 : decode cX5_laysParts 10 = .ok (.iload 4, 2) := dk_get _ da_cX5_laysParts_0 7 _ _ _ rfl
theorem dX5_laysParts_12 : decode cX5_laysParts 12 = .ok (.aload_n 0, 1) := dk_get _ da_cX5_laysParts_0 8 _ _ _ rfl
theorem dX5_laysParts_13 : decode cX5_laysParts 13 = .ok (.getfield 101, 3) := dk_get _ da_cX5_laysParts_0 9 _ _ _ rfl
theorem dX5_laysParts_16 : decode cX5_laysParts 16 = .ok (.if_icmp .ge 63, 3) := dk_get _ da_cX5_laysParts_0 10 _ _ _ rfl
theorem dX5_laysParts_19 : decode cX5_laysParts 19 = .ok (.aload_n 0, 1) := dk_get _ da_cX5_laysParts_0 11 _ _ _ rfl
theorem dX5_laysParts_20 : decode cX5_laysParts 20 = .ok (.getfield 38, 3) := dk_get _ da_cX5_laysParts_0 12 _ _ _ rfl
theorem dX5_laysParts_23 : decode cX5_laysParts 23 = .ok (.iload 4, 2) := dk_get _ da_cX5_laysParts_0 13 _ _ _ rfl
theorem dX5_laysParts_25 : decode cX5_laysParts 25 = .ok (.iaload, 1) := dk_get _ da_cX5_laysParts_0 14 _ _ _ rfl
theorem dX5_laysParts_26 : decode cX5_laysParts 26 = .ok (.iload_n 3, 1) := dk_get _ da_cX5_laysParts_0 15 _ _ _ rfl
theorem dX5_laysParts_27 : decode cX5_laysParts 27 = .ok (.if_icmp .ne 46, 3) := dk_get _ da_cX5_laysParts_0 16 _ _ _ rfl
theorem dX5_laysParts_30 : decode cX5_laysParts 30 = .ok (.aload_n 0, 1) := dk_get _ da_cX5_laysParts_0 17 _ _ _ rfl
theorem dX5_laysParts_31 : decode cX5_laysParts 31 = .ok (.getfield 41, 3) := dk_get _ da_cX5_laysParts_0 18 _ _ _ rfl
theorem dX5_laysParts_34 : decode cX5_laysParts 34 = .ok (.iload 4, 2) := dk_get _ da_cX5_laysParts_0 19 _ _ _ rfl
theorem dX5_laysParts_36 : decode cX5_laysParts 36 = .ok (.iaload, 1) := dk_get _ da_cX5_laysParts_0 20 _ _ _ rfl
theorem dX5_laysParts_37 : decode cX5_laysParts 37 = .ok (.iload_n 2, 1) := dk_get _ da_cX5_laysParts_0 21 _ _ _ rfl
theorem dX5_laysParts_38 : decode cX5_laysParts 38 = .ok (.if_icmp .le 6, 3) := dk_get _ da_cX5_laysParts_0 22 _ _ _ rfl
theorem dX5_laysParts_41 : decode cX5_laysParts 41 = .ok (.goto 32, 3) := dk_get _ da_cX5_laysParts_0 23 _ _ _ rfl
theorem dX5_laysParts_44 : decode cX5_laysParts 44 = .ok (.aload_n 0, 1) := dk_get _ da_cX5_laysParts_0 24 _ _ _ rfl
theorem dX5_laysParts_45 : decode cX5_laysParts 45 = .ok (.getfield 44, 3) := dk_get _ da_cX5_laysParts_0 25 _ _ _ rfl
theorem dX5_laysParts_48 : decode cX5_laysParts 48 = .ok (.aload_n 0, 1) := dk_get _ da_cX5_laysParts_0 26 _ _ _ rfl
theorem dX5_laysParts_49 : decode cX5_laysParts 49 = .ok (.getfield 115, 3) := dk_get _ da_cX5_laysParts_0 27 _ _ _ rfl
theorem dX5_laysParts_52 : decode cX5_laysParts 52 = .ok (.iload 4, 2) := dk_get _ da_cX5_laysParts_0 28 _ _ _ rfl
theorem dX5_laysParts_54 : decode cX5_laysParts 54 = .ok (.iastore, 1) := dk_get _ da_cX5_laysParts_0 29 _ _ _ rfl
theorem dX5_laysParts_55 : decode cX5_laysParts 55 = .ok (.aload_n 0, 1) := dk_get _ da_cX5_laysParts_0 30 _ _ _ rfl
theorem dX5_laysParts_56 : decode cX5_laysParts 56 = .ok (.dup, 1) := dk_get _ da_cX5_laysParts_0 31 _ _ _ rfl
theorem dX5_laysParts_57 : decode cX5_laysParts 57 = .ok (.getfield 115, 3) := dk_get _ da_cX5_laysParts_0 32 _ _ _ rfl
theorem dX5_laysParts_60 : decode cX5_laysParts 60 = .ok (.iconst 1, 1) := dk_get _ da_cX5_laysParts_0 33 _ _ _ rfl
theorem dX5_laysParts_61 : decode cX5_laysParts 61 = .ok (.iadd, 1) := dk_get _ da_cX5_laysParts_0 34 _ _ _ rfl
theorem dX5_laysParts_62 : decode cX5_laysParts 62 = .ok (.putfield 115, 3) := dk_get _ da_cX5_laysParts_0 35 _ _ _ rfl
theorem dX5_laysParts_65 : decode cX5_laysParts 65 = .ok (.aload_n 0, 1) := dk_get _ da_cX5_laysParts_0 36 _ _ _ rfl
theorem dX5_laysParts_66 : decode cX5_laysParts 66 = .ok (.getfield 41, 3) := dk_get _ da_cX5_laysParts_0 37 _ _ _ rfl
theorem dX5_laysParts_69 : decode cX5_laysParts 69 = .ok (.iload 4, 2) := dk_get _ da_cX5_laysParts_0 38 _ _ _ rfl
theorem dX5_laysParts_71 : decode cX5_laysParts 71 = .ok (.iaload, 1) := dk_get _ da_cX5_laysParts_0 39 _ _ _ rfl
theorem dX5_laysParts_72 : decode cX5_laysParts 72 = .ok (.istore_n 3, 1) := dk_get _ da_cX5_laysParts_0 40 _ _ _ rfl
theorem dX5_laysParts_73 : decode cX5_laysParts 73 = .ok (.iinc 4 1, 3) := dk_get _ da_cX5_laysParts_0 41 _ _ _ rfl
theorem dX5_laysParts_76 : decode cX5_laysParts 76 = .ok (.goto (-66), 3) := dk_get _ da_cX5_laysParts_0 42 _ _ _ rfl
theorem dX5_laysParts_79 : decode cX5_laysParts 79 = .ok (.return_, 1) := dk_get _ da_cX5_laysParts_0 43 _ _ _ rfl
theorem mi_wsX5_folds_wsX5_folds_r1 : ∀ w ∈ wsX5_folds_r1, w ∈ wsX5_folds := fun _ h => (List.mem_cons_of_mem _ (List.mem_append_left _ (List.mem_append_left _ h)))
theorem mi_wsX5_folds_wsX50 : ∀ w ∈ wsX50, w ∈ wsX5_folds := fun _ h => (List.mem_cons_of_mem _ (List.mem_append_right _ h))
set_option maxRecDepth 20000 in
theorem ggX5_folds_X5_laysParts : GoodIn wsX5_folds wsX5_laysParts := goodIn_k _ [(wsX5_folds_r1, [6, 1, 7, 8, 9, 0]), (wsX50, [0, 1, 2, 3, 4, 5, 6, 7, 8, 9, 10, 11, 12, 13, 14, 15, 16, 17, 18, 19, 20, 21, 22, 23, 24, 25, 26, 27, 28, 29])] (gk_c mi_wsX5_folds_wsX5_folds_r1 (gk_c mi_wsX5_folds_wsX50 gk_n)) rfl (by decide +kernel)
set_option maxRecDepth 20000 in
theorem gX5_folds_X5_laysParts : GoodIn wsX5_folds (wsV RX5 118 RX5 yX5_laysParts wsX5_laysParts) := goodIn_app (goodIn_k _ [(wsX5_folds_r1, [2, 3, 4, 5])] (gk_c mi_wsX5_folds_wsX5_folds_r1 gk_n) rfl (by decide +kernel)) ggX5_folds_X5_laysParts
set_option maxRecDepth 20000 in
theorem ggX5_folds_X5_copies : GoodIn wsX5_folds wsX5_copies := goodIn_k _ [(wsX5_folds_r1, [13, 14, 15, 16, 17, 18]), (wsX50, [0, 1, 2, 3, 4, 5, 6, 7, 8, 9, 10, 11, 12, 13, 14, 15, 16, 17, 18, 19, 20, 21, 22, 23, 24, 25, 26, 27, 28, 29])] (gk_c mi_wsX5_folds_wsX5_folds_r1 (gk_c mi_wsX5_folds_wsX50 gk_n)) rfl (by decide +kernel)
set_option maxRecDepth 20000 in
theorem gX5_folds_X5_copies : GoodIn wsX5_folds (wsV RX5 121 RX5 yX5_copies wsX5_copies) := goodIn_app (goodIn_k _ [(wsX5_folds_r1, [10, 11, 12, 5])] (gk_c mi_wsX5_folds_wsX5_folds_r1 gk_n) rfl (by decide +kernel)) ggX5_folds_X5_copies
theorem mi_wsX5_folds_wsX5_folds_r2 : ∀ w ∈ wsX5_folds_r2, w ∈ wsX5_folds := fun _ h => (List.mem_cons_of_mem _ (List.mem_append_left _ (List.mem_append_right _ h)))
set_option maxRecDepth 20000 in
theorem ggX5_folds_X5_together : GoodIn wsX5_folds wsX5_together := goodIn_k _ [(wsX5_folds_r1, [22, 23, 14, 17, 18]), (wsX5_folds_r2, [0]), (wsX5_folds_r1, [15]), (wsX5_folds_r2, [1]), (wsX5_folds_r1, [16]), (wsX5_folds_r2, [2, 3, 4]), (wsX5_folds_r1, [5]), (wsX5_folds_r2, [5, 6, 7, 8, 9, 10, 11, 12, 13]), (wsX50, [0, 1, 2, 3, 4, 5, 6, 7, 8, 9, 10, 11, 12, 13, 14, 15, 16, 17, 18, 19, 20, 21, 22, 23, 24, 25, 26, 27, 28, 29])] (gk_c mi_wsX5_folds_wsX5_folds_r1 (gk_c mi_wsX5_folds_wsX5_folds_r2 (gk_c mi_wsX5_folds_wsX5_folds_r1 (gk_c mi_wsX5_folds_wsX5_folds_r2 (gk_c mi_wsX5_folds_wsX5_folds_r1 (gk_c mi_wsX5_folds_wsX5_folds_r2 (gk_c mi_wsX5_folds_wsX5_folds_r1 (gk_c mi_wsX5_folds_wsX5_folds_r2 (gk_c mi_wsX5_folds_wsX50 gk_n))))))))) rfl (by decide +kernel)
set_option maxRecDepth 20000 in
theorem gX5_folds_X5_together : GoodIn wsX5_folds (wsV RX5 111 RX5 yX5_together wsX5_together) := goodIn_app (goodIn_k _ [(wsX5_folds_r1, [19, 20, 21, 5])] (gk_c mi_wsX5_folds_wsX5_folds_r1 gk_n) rfl (by decide +kernel)) ggX5_folds_X5_together
def dt_cX5_folds_0 : List (Nat × Instr × Nat) := [(0, .aload_n 0, 1), (1, .iload_n 1, 1), (2, .iload_n 2, 1), (3, .invokevirtual 118, 3), (6, .aload_n 0, 1), (7, .aload_n 0, 1), (8, .getfield 44, 3), (11, .iconst 0, 1), (12, .iaload, 1), (13, .iload_n 3, 1), (14, .invokevirtual 121, 3), (17, .iconst 1, 1), (18, .istore 5, 2), (20, .iload 5, 2), (22, .aload_n 0, 1), (23, .getfield 115, 3), (26, .if_icmp .ge 24, 3), (29, .aload_n 0, 1), (30, .iload_n 3, 1), (31, .aload_n 0, 1), (32, .getfield 44, 3), (35, .iload 5, 2), (37, .iaload, 1), (38, .iload_n 3, 1), (39, .iload 4, 2), (41, .invokevirtual 111, 3), (44, .iinc 5 1, 3), (47, .goto (-27), 3), (50, .return_, 1)]
theorem da_cX5_folds_0 : dk_all cX5_folds dt_cX5_folds_0 = true := by decide +kernel
theorem dX5_folds_0 : decode cX5_folds 0 = .ok (.aload_n 0, 1) := dk_get _ da_cX5_folds_0 0 _ _ _ rfl
theorem dX5_folds_1 : decode cX5_folds 1 = .ok (.iload_n 1, 1) := dk_get _ da_cX5_folds_0 1 _ _ _ rfl
theorem dX5_folds_2 : decode cX5_folds 2 = .ok (.iload_n 2, 1) := dk_get _ da_cX5_folds_0 2 _ _ _ rfl
theorem dX5_folds_3 : decode cX5_folds 3 = .ok (.invokevirtual 118, 3) := dk_get _ da_cX5_folds_0 3 _ _ _ rfl
theorem dX5_folds_6 : decode cX5_folds 6 = .ok (.aload_n 0, 1) := dk_get _ da_cX5_folds_0 4 _ _ _ rfl
theorem dX5_folds_7 : decode cX5_folds 7 = .ok (.aload_n 0, 1) := dk_get _ da_cX5_folds_0 5 _ _ _ rfl
theorem dX5_folds_8 : decode cX5_folds 8 = .ok (.getfield 44, 3) := dk_get _ da_cX5_folds_0 6 _ _ _ rfl
theorem dX5_folds_11 : decode cX5_folds 11 = .ok (.iconst 0, 1) := dk_get _ da_cX5_folds_0 7 _ _ _ rfl
theorem dX5_folds_12 : decode cX5_folds 12 = .ok (.iaload, 1) := dk_get _ da_cX5_folds_0 8 _ _ _ rfl
theorem dX5_folds_13 : decode cX5_folds 13 = .ok (.iload_n 3, 1) := dk_get _ da_cX5_folds_0 9 _ _ _ rfl
theorem dX5_folds_14 : decode cX5_folds 14 = .ok (.invokevirtual 121, 3) := dk_get _ da_cX5_folds_0 10 _ _ _ rfl
theorem dX5_folds_17 : decode cX5_folds 17 = .ok (.iconst 1, 1) := dk_get _ da_cX5_folds_0 11 _ _ _ rfl
theorem dX5_folds_18 : decode cX5_folds 18 = .ok (.istore 5, 2) := dk_get _ da_cX5_folds_0 12 _ _ _ rfl
theorem dX5_folds_20 : decode cX5_folds 20 = .ok (.iload 5, 2) := dk_get _ da_cX5_folds_0 13 _ _ _ rfl
theorem dX5_folds_22 : decode cX5_folds 22 = .ok (.aload_n 0, 1) := dk_get _ da_cX5_folds_0 14 _ _ _ rfl
theorem dX5_folds_23 : decode cX5_folds 23 = .ok (.getfield 115, 3) := dk_get _ da_cX5_folds_0 15 _ _ _ rfl
theorem dX5_folds_26 : decode cX5_folds 26 = .ok (.if_icmp .ge 24, 3) := dk_get _ da_cX5_folds_0 16 _ _ _ rfl
theorem dX5_folds_29 : decode cX5_folds 29 = .ok (.aload_n 0, 1) := dk_get _ da_cX5_folds_0 17 _ _ _ rfl
theorem dX5_folds_30 : decode cX5_folds 30 = .ok (.iload_n 3, 1) := dk_get _ da_cX5_folds_0 18 _ _ _ rfl
theorem dX5_folds_31 : decode cX5_folds 31 = .ok (.aload_n 0, 1) := dk_get _ da_cX5_folds_0 19 _ _ _ rfl
theorem dX5_folds_32 : decode cX5_folds 32 = .ok (.getfield 44, 3) := dk_get _ da_cX5_folds_0 20 _ _ _ rfl
theorem dX5_folds_35 : decode cX5_folds 35 = .ok (.iload 5, 2) := dk_get _ da_cX5_folds_0 21 _ _ _ rfl
theorem dX5_folds_37 : decode cX5_folds 37 = .ok (.iaload, 1) := dk_get _ da_cX5_folds_0 22 _ _ _ rfl
theorem dX5_folds_38 : decode cX5_folds 38 = .ok (.iload_n 3, 1) := dk_get _ da_cX5_folds_0 23 _ _ _ rfl
theorem dX5_folds_39 : decode cX5_folds 39 = .ok (.iload 4, 2) := dk_get _ da_cX5_folds_0 24 _ _ _ rfl
theorem dX5_folds_41 : decode cX5_folds 41 = .ok (.invokevirtual 111, 3) := dk_get _ da_cX5_folds_0 25 _ _ _ rfl
theorem dX5_folds_44 : decode cX5_folds 44 = .ok (.iinc 5 1, 3) := dk_get _ da_cX5_folds_0 26 _ _ _ rfl
theorem dX5_folds_47 : decode cX5_folds 47 = .ok (.goto (-27), 3) := dk_get _ da_cX5_folds_0 27 _ _ _ rfl
theorem dX5_folds_50 : decode cX5_folds 50 = .ok (.return_, 1) := dk_get _ da_cX5_folds_0 28 _ _ _ rfl

