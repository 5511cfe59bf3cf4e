abbrev cX5_lays : ByteArray := prog_7_method_13_code
def yX5_lays : MethodName := ⟨RX5, "lays", "(III)I"⟩
def wsX5_lays_r1 : List Cond := [Cond.fieldLink RX5 101 "MajorityIndexModel" "nodes" "I", Cond.fieldLink RX5 38 "MajorityIndexModel" "nodeL" "[I", Cond.fieldLink RX5 41 "MajorityIndexModel" "nodeR" "[I", Cond.fieldLink RX5 7 "MajorityIndexModel" "row" "[I", Cond.methodLink RX5 104 yX5_one, Cond.instanceMethod yX5_one, Cond.selects RX5 yX5_one yX5_one, Cond.initialized RX5, Cond.code yX5_one cX5_one 3 none, Cond.fieldLink RX5 17 "MajorityIndexModel" "many" "[I", Cond.fieldLink RX5 20 "MajorityIndexModel" "loss" "[I", Cond.fieldLink RX5 23 "MajorityIndexModel" "less" "[I", Cond.fieldLink RX5 26 "MajorityIndexModel" "voteValue" "[I", Cond.fieldLink RX5 29 "MajorityIndexModel" "voteNumber" "[I", Cond.methodLink RX5 107 yX5_lays, Cond.instanceMethod yX5_lays, Cond.selects RX5 yX5_lays yX5_lays, Cond.methodLink RX5 111 yX5_together, Cond.instanceMethod yX5_together, Cond.selects RX5 yX5_together yX5_together, Cond.code yX5_together cX5_together 9 none, Cond.fieldLink RX5 87 "MajorityIndexModel" "allMany" "I", Cond.fieldLink RX5 35 "MajorityIndexModel" "allNumber" "[I", Cond.fieldLink RX5 32 "MajorityIndexModel" "allValue" "[I"]
def wsX5_lays_r2 : List Cond := [Cond.methodLink RX5 94 yX5_adds, Cond.instanceMethod yX5_adds, Cond.selects RX5 yX5_adds yX5_adds, Cond.code yX5_adds cX5_adds 4 none, Cond.methodLink RX5 98 yX5_sorts, Cond.instanceMethod yX5_sorts, Cond.selects RX5 yX5_sorts yX5_sorts, Cond.code yX5_sorts cX5_sorts 4 none, Cond.methodLink RX5 90 yX5_isAhead, Cond.instanceMethod yX5_isAhead, Cond.selects RX5 yX5_isAhead yX5_isAhead, Cond.code yX5_isAhead cX5_isAhead 3 (some .boolean)]
def wsX5_lays : List Cond := .code yX5_lays cX5_lays 8 (some .int) :: ((wsX5_lays_r1 ++ wsX5_lays_r2) ++ wsX50)
theorem mi_wsX5_lays_wsX5_lays_r1 : ∀ w ∈ wsX5_lays_r1, w ∈ wsX5_lays := fun _ h => (List.mem_cons_of_mem _ (List.mem_append_left _ (List.mem_append_left _ h)))
theorem mi_wsX5_lays_wsX50 : ∀ w ∈ wsX50, w ∈ wsX5_lays := fun _ h => (List.mem_cons_of_mem _ (List.mem_append_right _ h))
set_option maxRecDepth 20000 in
theorem ggX5_lays_X5_one : GoodIn wsX5_lays wsX5_one := goodIn_k _ [(wsX5_lays_r1, [8, 9, 10, 11, 12, 13]), (wsX50, [0, 1, 2, 3, 4, 5, 6, 7, 8, 9, 10, 11, 12, 13, 14, 15, 16, 17, 18, 19, 20, 21, 22, 23, 24, 25, 26, 27, 28, 29])] (gk_c mi_wsX5_lays_wsX5_lays_r1 (gk_c mi_wsX5_lays_wsX50 gk_n)) rfl (by decide +kernel)
set_option maxRecDepth 20000 in
theorem gX5_lays_X5_one : GoodIn wsX5_lays (wsV RX5 104 RX5 yX5_one wsX5_one) := goodIn_app (goodIn_k _ [(wsX5_lays_r1, [4, 5, 6, 7])] (gk_c mi_wsX5_lays_wsX5_lays_r1 gk_n) rfl (by decide +kernel)) ggX5_lays_X5_one
set_option maxRecDepth 20000 in
theorem ggX5_lays_X5_lays : GoodIn wsX5_lays wsX5_lays := goodIn_r _ [0, 1, 2, 3, 4, 5, 6, 7, 8, 9, 10, 11, 12, 13, 14, 15, 16, 17, 18, 19, 20, 21, 22, 23, 24, 25, 26, 27, 28, 29, 30, 31, 32, 33, 34, 35, 36, 37, 38, 39, 40, 41, 42, 43, 44, 45, 46, 47, 48, 49, 50, 51, 52, 53, 54, 55, 56, 57, 58, 59, 60, 61, 62, 63, 64, 65, 66] rfl (by decide +kernel)
set_option maxRecDepth 20000 in
theorem gX5_lays_X5_lays : GoodIn wsX5_lays (wsV RX5 107 RX5 yX5_lays wsX5_lays) := goodIn_app (goodIn_k _ [(wsX5_lays_r1, [14, 15, 16, 7])] (gk_c mi_wsX5_lays_wsX5_lays_r1 gk_n) rfl (by decide +kernel)) ggX5_lays_X5_lays
theorem mi_wsX5_lays_wsX5_lays_r2 : ∀ w ∈ wsX5_lays_r2, w ∈ wsX5_lays := fun _ h => (List.mem_cons_of_mem _ (List.mem_append_left _ (List.mem_append_right _ h)))
set_option maxRecDepth 20000 in
theorem ggX5_lays_X5_together : GoodIn wsX5_lays wsX5_together := goodIn_k _ [(wsX5_lays_r1, [20, 21, 9, 12, 13, 22, 10, 23, 11]), (wsX5_lays_r2, [0, 1, 2]), (wsX5_lays_r1, [7]), (wsX5_lays_r2, [3, 4, 5, 6, 7, 8, 9, 10, 11]), (wsX50, [0, 1, 2, 3, 4, 5, 6, 7, 8, 9, 10, 11, 12, 13, 14, 15, 16, 17, 18, 19, 20, 21, 22, 23, 24, 25, 26, 27, 28, 29])] (gk_c mi_wsX5_lays_wsX5_lays_r1 (gk_c mi_wsX5_lays_wsX5_lays_r2 (gk_c mi_wsX5_lays_wsX5_lays_r1 (gk_c mi_wsX5_lays_wsX5_lays_r2 (gk_c mi_wsX5_lays_wsX50 gk_n))))) rfl (by decide +kernel)
set_option maxRecDepth 20000 in
theorem gX5_lays_X5_together : GoodIn wsX5_lays (wsV RX5 111 RX5 yX5_together wsX5_together) := goodIn_app (goodIn_k _ [(wsX5_lays_r1, [17, 18, 19, 7])] (gk_c mi_wsX5_lays_wsX5_lays_r1 gk_n) rfl (by decide +kernel)) ggX5_lays_X5_together
def dt_cX5_lays_0 : List (Nat × Instr × Nat) := [(0, .aload_n 0, 1), (1, .getfield 101, 3), (4, .istore 4, 2), (6, .aload_n 0, 1), (7, .dup, 1), (8, .getfield 101, 3), (11, .iconst 1, 1), (12, .iadd, 1), (13, .putfield 101, 3), (16, .aload_n 0, 1), (17, .getfield 38, 3), (20, .iload 4, 2), (22, .iload_n 1, 1), (23, .iastore, 1), (24, .aload_n 0, 1), (25, .getfield 41, 3), (28, .iload 4, 2), (30, .iload_n 2, 1), (31, .iastore, 1), (32, .iload_n 2, 1), (33, .iload_n 1, 1), (34, .isub, 1), (35, .iconst 1, 1), (36, .if_icmp .ne 18, 3), (39, .aload_n 0, 1), (40, .iload 4, 2), (42, .aload_n 0, 1), (43, .getfield 7, 3), (46, .iload_n 1, 1), (47, .iaload, 1), (48, .invokevirtual 104, 3), (51, .iload 4, 2), (53, .ireturn, 1), (54, .iload_n 1, 1), (55, .iload_n 2, 1), (56, .iadd, 1), (57, .iconst 2, 1), (58, .idiv, 1), (59, .istore 5, 2), (61, .aload_n 0, 1), (62, .iload_n 1, 1), (63, .iload 5, 2), (65, .iload_n 3, 1), (66, .invokevirtual 107, 3), (69, .istore 6, 2), (71, .aload_n 0, 1), (72, .iload 5, 2), (74, .iload_n 2, 1), (75, .iload_n 3, 1), (76, .invokevirtual 107, 3), (79, .istore 7, 2), (81, .aload_n 0, 1), (82, .iload 6, 2), (84, .iload 7, 2), (86, .iload 4, 2), (88, .iload_n 3, 1), (89, .invokevirtual 111, 3), (92, .iload 4, 2), (94, .ireturn, 1)]
theorem da_cX5_lays_0 : dk_all cX5_lays dt_cX5_lays_0 = true := by decide +kernel
theorem dX5_lays_0 : decode cX5_lays 0 = .ok (.aload_n 0, 1) := dk_get _ da_cX5_lays_0 0 _ _ _ rfl
theorem dX5_lays_1 : decode cX5_lays 1 = .ok (.getfield 101, 3) := dk_get _ da_cX5_lays_0 1 _ _ _ rfl
theorem dX5_lays_4 : decode cX5_lays 4 = .ok (.istore 4, 2) := dk_get _ da_cX5_lays_0 2 _ _ _ rfl
theorem dX5_lays_6 : decode cX5_lays 6 = .ok (.aload_n 0, 1) := dk_get _ da_cX5_lays_0 3 _ _ _ rfl
theorem dX5_lays_7 : decode cX5_lays 7 = .ok (.dup, 1) := dk_get _ da_cX5_lays_0 4 _ _ _ rfl
theorem dX5_lays_8 : decode cX5_lays 8 = .ok (.getfield 101, 3) := dk_get _ da_cX5_lays_0 5 _ _ _ rfl
theorem dX5_lays_11 : decode cX5_lays 11 = .ok (.iconst 1, 1) := dk_get _ da_cX5_lays_0 6 _ _ _ rfl
theorem dX5_lays_12 : decode cX5_lays 12 = .ok (.iadd, 1) := dk_get _ da_cX5_lays_0 7 _ _ _ rfl
theorem dX5_lays_13 : decode cX5_lays 13 = .ok (.putfield 101, 3) := dk_get _ da_cX5_lays_0 8 _ _ _ rfl
theorem dX5_lays_16 : decode cX5_lays 16 = .ok (.aload_n 0, 1) := dk_get _ da_cX5_lays_0 9 _ _ _ rfl
theorem dX5_lays_17 : decode cX5_lays 17 = .ok (.getfield 38, 3) := dk_get _ da_cX5_lays_0 10 _ _ _ rfl
theorem dX5_lays_20 : decode cX5_lays 20 = .ok (.iload 4, 2) := dk_get _ da_cX5_lays_0 11 _ _ _ rfl
theorem dX5_lays_22 : decode cX5_lays 22 = .ok (.iload_n 1, 1) := dk_get _ da_cX5_lays_0 12 _ _ _ rfl
theorem dX5_lays_23 : decode cX5_lays 23 = .ok (.iastore, 1) := dk_get _ da_cX5_lays_0 13 _ _ _ rfl
theorem dX5_lays_24 : decode cX5_lays 24 = .ok (.aload_n 0, 1) := dk_get _ da_cX5_lays_0 14 _ _ _ rfl
theorem dX5_lays_25 : decode cX5_lays 25 = .ok (.getfield 41, 3) := dk_get _ da_cX5_lays_0 15 _ _ _ rfl
theorem dX5_lays_28 : decode cX5_lays 28 = .ok (.iload 4, 2) := dk_get _ da_cX5_lays_0 16 _ _ _ rfl
theorem dX5_lays_30 : decode cX5_lays 30 = .ok (.iload_n 2, 1) := dk_get _ da_cX5_lays_0 17 _ _ _ rfl
theorem dX5_lays_31 : decode cX5_lays 31 = .ok (.iastore, 1) := dk_get _ da_cX5_lays_0 18 _ _ _ rfl
theorem dX5_lays_32 : decode cX5_lays 32 = .ok (.iload_n 2, 1) := dk_get _ da_cX5_lays_0 19 _ _ _ rfl
theorem dX5_lays_33 : decode cX5_lays 33 = .ok (.iload_n 1, 1) := dk_get _ da_cX5_lays_0 20 _ _ _ rfl
theorem dX5_lays_34 : decode cX5_lays 34 = .ok (.isub, 1) := dk_get _ da_cX5_lays_0 21 _ _ _ rfl
theorem dX5_lays_35 : decode cX5_lays 35 = .ok (.iconst 1, 1) := dk_get _ da_cX5_lays_0 22 _ _ _ rfl
theorem dX5_lays_36 : decode cX5_lays 36 = .ok (.if_icmp .ne 18, 3) := dk_get _ da_cX5_lays_0 23 _ _ _ rfl
theorem dX5_lays_39 : decode cX5_lays 39 = .ok (.aload_n 0, 1) := dk_get _ da_cX5_lays_0 24 _ _ _ rfl
theorem dX5_lays_40 : decode cX5_lays 40 = .ok (.iload 4, 2) := dk_get _ da_cX5_lays_0 25 _ _ _ rfl
theorem dX5_lays_42 : decode cX5_lays 42 = .ok (.aload_n 0, 1) := dk_get _ da_cX5_lays_0 26 _ _ _ rfl
theorem dX5_lays_43 : decode cX5_lays 43 = .ok (.getfield 7, 3) := dk_get _ da_cX5_lays_0 27 _ _ _ rfl
theorem dX5_lays_46 : decode cX5_lays 46 = .ok (.iload_n 1, 1) := dk_get _ da_cX5_lays_0 28 _ _ _ rfl
theorem dX5_lays_47 : decode cX5_lays 47 = .ok (.iaload, 1) := dk_get _ da_cX5_lays_0 29 _ _ _ rfl
theorem dX5_lays_48 : decode cX5_lays 48 = .ok (.invokevirtual 104, 3) := dk_get _ da_cX5_lays_0 30 _ _ _ rfl
theorem dX5_lays_51 : decode cX5_lays 51 = .ok (.iload 4, 2) := dk_get _ da_cX5_lays_0 31 _ _ _ rfl
theorem dX5_lays_53 : decode cX5_lays 53 = .ok (.ireturn, 1) := dk_get _ da_cX5_lays_0 32 _ _ _ rfl
theorem dX5_lays_54 : decode cX5_lays 54 = .ok (.iload_n 1, 1) := dk_get _ da_cX5_lays_0 33 _ _ _ rfl
theorem dX5_lays_55 : decode cX5_lays 55 = .ok (.iload_n 2, 1) := dk_get _ da_cX5_lays_0 34 _ _ _ rfl
theorem dX5_lays_56 : decode cX5_lays 56 = .ok (.iadd, 1) := dk_get _ da_cX5_lays_0 35 _ _ _ rfl
theorem dX5_lays_57 : decode cX5_lays 57 = .ok (.iconst 2, 1) := dk_get _ da_cX5_lays_0 36 _ _ _ rfl
theorem dX5_lays_58 : decode cX5_lays 58 = .ok (.idiv, 1) := dk_get _ da_cX5_lays_0 37 _ _ _ rfl
theorem dX5_lays_59 : decode cX5_lays 59 = .ok (.istore 5, 2) := dk_get _ da_cX5_lays_0 38 _ _ _ rfl
theorem dX5_lays_61 : decode cX5_lays 61 = .ok (.aload_n 0, 1) := dk_get _ da_cX5_lays_0 39 _ _ _ rfl
theorem dX5_lays_62 : decode cX5_lays 62 = .ok (.iload_n 1, 1) := dk_get _ da_cX5_lays_0 40 _ _ _ rfl
theorem dX5_lays_63 : decode cX5_lays 63 = .ok (.iload 5, 2) := dk_get _ da_cX5_lays_0 41 _ _ _ rfl
theorem dX5_lays_65 : decode cX5_lays 65 = .ok (.iload_n 3, 1) := dk_get _ da_cX5_lays_0 42 _ _ _ rfl
theorem dX5_lays_66 : decode cX5_lays 66 = .ok (.invokevirtual 107, 3) := dk_get _ da_cX5_lays_0 43 _ _ _ rfl
theorem dX5_lays_69 : decode cX5_lays 69 = .ok (.istore 6, 2) := dk_get _ da_cX5_lays_0 44 _ _ _ rfl
theorem dX5_lays_71 : decode cX5_lays 71 = .ok (.aload_n 0, 1) := dk_get _ da_cX5_lays_0 45 _ _ _ rfl
theorem dX5_lays_72 : decode cX5_lays 72 = .ok (.iload 5, 2) := dk_get _ da_cX5_lays_0 46 _ _ _ rfl
theorem dX5_lays_74 : decode cX5_lays 74 = .ok (.iload_n 2, 1) := dk_get _ da_cX5_lays_0 47 _ _ _ rfl
theorem dX5_lays_75 : decode cX5_lays 75 = .ok (.iload_n 3, 1) := dk_get _ da_cX5_lays_0 48 _ _ _ rfl
theorem dX5_lays_76 : decode cX5_lays 76 = .ok (.invokevirtual 107, 3) := dk_get _ da_cX5_lays_0 49 _ _ _ rfl
theorem dX5_lays_79 : decode cX5_lays 79 = .ok (.istore 7, 2) := dk_get _ da_cX5_lays_0 50 _ _ _ rfl
theorem dX5_lays_81 : decode cX5_lays 81 = .ok (.aload_n 0, 1) := dk_get _ da_cX5_lays_0 51 _ _ _ rfl
theorem dX5_lays_82 : decode cX5_lays 82 = .ok (.iload 6, 2) := dk_get _ da_cX5_lays_0 52 _ _ _ rfl
theorem dX5_lays_84 : decode cX5_lays 84 = .ok (.iload 7, 2) := dk_get _ da_cX5_lays_0 53 _ _ _ rfl
theorem dX5_lays_86 : decode cX5_lays 86 = .ok (.iload 4, 2) := dk_get _ da_cX5_lays_0 54 _ _ _ rfl
theorem dX5_lays_88 : decode cX5_lays 88 = .ok (.iload_n 3, 1) := dk_get _ da_cX5_lays_0 55 _ _ _ rfl
theorem dX5_lays_89 : decode cX5_lays 89 = .ok (.invokevirtual 111, 3) := dk_get _ da_cX5_lays_0 56 _ _ _ rfl
theorem dX5_lays_92 : decode cX5_lays 92 = .ok (.iload 4, 2) := dk_get _ da_cX5_lays_0 57 _ _ _ rfl
theorem dX5_lays_94 : decode cX5_lays 94 = .ok (.ireturn, 1) := dk_get _ da_cX5_lays_0 58 _ _ _ rfl

