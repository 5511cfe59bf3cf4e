abbrev cX0_takeOut : ByteArray := prog_2_method_6_code
def yX0_takeOut : MethodName := ⟨RX0, "takeOut", "(I)I"⟩
abbrev cX0_exchange : ByteArray := prog_2_method_7_code
def yX0_exchange : MethodName := ⟨RX0, "exchange", "(II)V"⟩
abbrev cX0_firstLike : ByteArray := prog_2_method_9_code
def yX0_firstLike : MethodName := ⟨RX0, "firstLike", "(I)I"⟩
abbrev cX0_leader : ByteArray := prog_2_method_10_code
def yX0_leader : MethodName := ⟨RX0, "leader", "(II)I"⟩
def wsX0_takeOut : List Cond := .code yX0_takeOut cX0_takeOut 4 (some .int) :: ([.constant RX0 23 (-40000), .fieldLink RX0 9 "MajorityIndex$Row" "cell" "[I", .fieldLink RX0 15 "MajorityIndex$Row" "length" "I", .methodLink RX0 19 yX0_hasPlace, .instanceMethod yX0_hasPlace, .selects RX0 yX0_hasPlace yX0_hasPlace, .initialized RX0, .code yX0_hasPlace cX0_hasPlace 2 (some .boolean)] ++ wsX00)
def wsX0_exchange : List Cond := .code yX0_exchange cX0_exchange 4 none :: ([.fieldLink RX0 9 "MajorityIndex$Row" "cell" "[I"] ++ wsX00)
def wsX0_firstLike : List Cond := .code yX0_firstLike cX0_firstLike 3 (some .int) :: ([.fieldLink RX0 9 "MajorityIndex$Row" "cell" "[I"] ++ wsX00)
def wsX0_leader : List Cond := .code yX0_leader cX0_leader 6 (some .int) :: ([.constant RX0 23 (-40000), .fieldLink RX0 9 "MajorityIndex$Row" "cell" "[I", .methodLink RX0 24 yX0_oftenIn, .instanceMethod yX0_oftenIn, .selects RX0 yX0_oftenIn yX0_oftenIn, .initialized RX0, .code yX0_oftenIn cX0_oftenIn 6 (some .int), .static yX4_isHeavy, .initialized RX4, .code yX4_isHeavy cX4_isHeavy 4 (some .boolean)] ++ wsX00)
set_option maxRecDepth 20000 in
theorem ggX0_takeOut_X0_hasPlace : GoodIn wsX0_takeOut wsX0_hasPlace := goodIn_r _ [8, 3, 9, 10] rfl (by decide +kernel)
set_option maxRecDepth 20000 in
theorem gX0_takeOut_X0_hasPlace : GoodIn wsX0_takeOut (wsV RX0 19 RX0 yX0_hasPlace wsX0_hasPlace) := goodIn_app (goodIn_r _ [4, 5, 6, 7] rfl (by decide +kernel)) ggX0_takeOut_X0_hasPlace
def dt_cX0_takeOut_0 : List (Nat × Instr × Nat) := [(0, .aload_n 0, 1), (1, .iload_n 1, 1), (2, .invokevirtual 19, 3), (5, .ifCond .ne 6, 3), (11, .aload_n 0, 1), (12, .getfield 9, 3), (15, .iload_n 1, 1), (16, .iaload, 1), (17, .istore_n 2, 1), (18, .iload_n 1, 1), (19, .istore_n 3, 1), (20, .iload_n 3, 1), (21, .aload_n 0, 1), (22, .getfield 15, 3), (25, .iconst 1, 1), (26, .isub, 1), (27, .if_icmp .ge 23, 3), (30, .aload_n 0, 1), (31, .getfield 9, 3), (34, .iload_n 3, 1), (35, .aload_n 0, 1), (36, .getfield 9, 3), (39, .iload_n 3, 1), (40, .iconst 1, 1), (41, .iadd, 1), (42, .iaload, 1), (43, .iastore, 1), (44, .iinc 3 1, 3), (47, .goto (-27), 3), (50, .aload_n 0, 1), (51, .dup, 1), (52, .getfield 15, 3), (55, .iconst 1, 1), (56, .isub, 1), (57, .putfield 15, 3), (60, .iload_n 2, 1), (61, .ireturn, 1)]
theorem da_cX0_takeOut_0 : dk_all cX0_takeOut dt_cX0_takeOut_0 = true := by decide +kernel
theorem dX0_takeOut_0 : decode cX0_takeOut 0 = .ok (.aload_n 0, 1) := dk_get _ da_cX0_takeOut_0 0 _ _ _ rfl
theorem dX0_takeOut_1 : decode cX0_takeOut 1 = .ok (.iload_n 1, 1) := dk_get _ da_cX0_takeOut_0 1 _ _ _ rfl
theorem dX0_takeOut_2 : decode cX0_takeOut 2 = .ok (.invokevirtual 19, 3) := dk_get _ da_cX0_takeOut_0 2 _ _ _ rfl
theorem dX0_takeOut_5 : decode cX0_takeOut 5 = .ok (.ifCond .ne 6, 3) := dk_get _ da_cX0_takeOut_0 3 _ _ _ rfl
theorem dX0_takeOut_11 : decode cX0_takeOut 11 = .ok (.aload_n 0, 1) := dk_get _ da_cX0_takeOut_0 4 _ _ _ rfl
theorem dX0_takeOut_12 : decode cX0_takeOut 12 = .ok (.getfield 9, 3) := dk_get _ da_cX0_takeOut_0 5 _ _ _ rfl
theorem dX0_takeOut_15 : decode cX0_takeOut 15 = .ok (.iload_n 1, 1) := dk_get _ da_cX0_takeOut_0 6 _ _ _ rfl
theorem dX0_takeOut_16 : decode cX0_takeOut 16 = .ok (.iaload, 1) := dk_get _ da_cX0_takeOut_0 7 _ _ _ rfl
theorem dX0_takeOut_17 : decode cX0_takeOut 17 = .ok (.istore_n 2, 1) := dk_get _ da_cX0_takeOut_0 8 _ _ _ rfl
theorem dX0_takeOut_18 : decode cX0_takeOut 18 = .ok (.iload_n 1, 1) := dk_get _ da_cX0_takeOut_0 9 _ _ _ rfl
theorem dX0_takeOut_19 : decode cX0_takeOut 19 = .ok (.istore_n 3, 1) := dk_get _ da_cX0_takeOut_0 10 _ _ _ rfl
theorem dX0_takeOut_20 : decode cX0_takeOut 20 = .ok (.iload_n 3, 1) := dk_get _ da_cX0_takeOut_0 11 _ _ _ rfl
theorem dX0_takeOut_21 : decode cX0_takeOut 21 = .ok (.aload_n 0, 1) := dk_get _ da_cX0_takeOut_0 12 _ _ _ rfl
theorem dX0_takeOut_22 : decode cX0_takeOut 22 = .ok (.getfield 15, 3) := dk_get _ da_cX0_takeOut_0 13 _ _ _ rfl
theorem dX0_takeOut_25 : decode cX0_takeOut 25 = .ok (.iconst 1, 1) := dk_get _ da_cX0_takeOut_0 14 _ _ _ rfl
theorem dX0_takeOut_26 : decode cX0_takeOut 26 = .ok (.isub, 1) := dk_get _ da_cX0_takeOut_0 15 _ _ _ rfl
theorem dX0_takeOut_27 : decode cX0_takeOut 27 = .ok (.if_icmp .ge 23, 3) := dk_get _ da_cX0_takeOut_0 16 _ _ _ rfl
theorem dX0_takeOut_30 : decode cX0_takeOut 30 = .ok (.aload_n 0, 1) := dk_get _ da_cX0_takeOut_0 17 _ _ _ rfl
theorem dX0_takeOut_31 : decode cX0_takeOut 31 = .ok (.getfield 9, 3) := dk_get _ da_cX0_takeOut_0 18 _ _ _ rfl
theorem dX0_takeOut_34 : decode cX0_takeOut 34 = .ok (.iload_n 3, 1) := dk_get _ da_cX0_takeOut_0 19 _ _ _ rfl
theorem dX0_takeOut_35 : decode cX0_takeOut 35 = .ok (.aload_n 0, 1) := dk_get _ da_cX0_takeOut_0 20 _ _ _ rfl
theorem dX0_takeOut_36 : decode cX0_takeOut 36 = .ok (.getfield 9, 3) := dk_get _ da_cX0_takeOut_0 21 _ _ _ rfl
theorem dX0_takeOut_39 : decode cX0_takeOut 39 = .ok (.iload_n 3, 1) := dk_get _ da_cX0_takeOut_0 22 _ _ _ rfl
theorem dX0_takeOut_40 : decode cX0_takeOut 40 = .ok (.iconst 1, 1) := dk_get _ da_cX0_takeOut_0 23 _ _ _ rfl
theorem dX0_takeOut_41 : decode cX0_takeOut 41 = .ok (.iadd, 1) := dk_get _ da_cX0_takeOut_0 24 _ _ _ rfl
theorem dX0_takeOut_42 : decode cX0_takeOut 42 = .ok (.iaload, 1) := dk_get _ da_cX0_takeOut_0 25 _ _ _ rfl
theorem dX0_takeOut_43 : decode cX0_takeOut 43 = .ok (.iastore, 1) := dk_get _ da_cX0_takeOut_0 26 _ _ _ rfl
theorem dX0_takeOut_44 : decode cX0_takeOut 44 = .ok (.iinc 3 1, 3) := dk_get _ da_cX0_takeOut_0 27 _ _ _ rfl
theorem dX0_takeOut_47 : decode cX0_takeOut 47 = .ok (.goto (-27), 3) := dk_get _ da_cX0_takeOut_0 28 _ _ _ rfl
theorem dX0_takeOut_50 : decode cX0_takeOut 50 = .ok (.aload_n 0, 1) := dk_get _ da_cX0_takeOut_0 29 _ _ _ rfl
theorem dX0_takeOut_51 : decode cX0_takeOut 51 = .ok (.dup, 1) := dk_get _ da_cX0_takeOut_0 30 _ _ _ rfl
theorem dX0_takeOut_52 : decode cX0_takeOut 52 = .ok (.getfield 15, 3) := dk_get _ da_cX0_takeOut_0 31 _ _ _ rfl
theorem dX0_takeOut_55 : decode cX0_takeOut 55 = .ok (.iconst 1, 1) := dk_get _ da_cX0_takeOut_0 32 _ _ _ rfl
theorem dX0_takeOut_56 : decode cX0_takeOut 56 = .ok (.isub, 1) := dk_get _ da_cX0_takeOut_0 33 _ _ _ rfl
theorem dX0_takeOut_57 : decode cX0_takeOut 57 = .ok (.putfield 15, 3) := dk_get _ da_cX0_takeOut_0 34 _ _ _ rfl
theorem dX0_takeOut_60 : decode cX0_takeOut 60 = .ok (.iload_n 2, 1) := dk_get _ da_cX0_takeOut_0 35 _ _ _ rfl
theorem dX0_takeOut_61 : decode cX0_takeOut 61 = .ok (.ireturn, 1) := dk_get _ da_cX0_takeOut_0 36 _ _ _ rfl
def dt_cX0_exchange_0 : List (Nat × Instr × Nat) := [(0, .aload_n 0, 1), (1, .getfield 9, 3), (4, .iload_n 1, 1), (5, .iaload, 1), (6, .istore_n 3, 1), (7, .aload_n 0, 1), (8, .getfield 9, 3), (11, .iload_n 1, 1), (12, .aload_n 0, 1), (13, .getfield 9, 3), (16, .iload_n 2, 1), (17, .iaload, 1), (18, .iastore, 1), (19, .aload_n 0, 1), (20, .getfield 9, 3), (23, .iload_n 2, 1), (24, .iload_n 3, 1), (25, .iastore, 1), (26, .return_, 1)]
theorem da_cX0_exchange_0 : dk_all cX0_exchange dt_cX0_exchange_0 = true := by decide +kernel
theorem dX0_exchange_0 : decode cX0_exchange 0 = .ok (.aload_n 0, 1) := dk_get _ da_cX0_exchange_0 0 _ _ _ rfl
theorem dX0_exchange_1 : decode cX0_exchange 1 = .ok (.getfield 9, 3) := dk_get _ da_cX0_exchange_0 1 _ _ _ rfl
theorem dX0_exchange_4 : decode cX0_exchange 4 = .ok (.iload_n 1, 1) := dk_get _ da_cX0_exchange_0 2 _ _ _ rfl
theorem dX0_exchange_5 : decode cX0_exchange 5 = .ok (.iaload, 1) := dk_get _ da_cX0_exchange_0 3 _ _ _ rfl
theorem dX0_exchange_6 : decode cX0_exchange 6 = .ok (.istore_n 3, 1) := dk_get _ da_cX0_exchange_0 4 _ _ _ rfl
theorem dX0_exchange_7 : decode cX0_exchange 7 = .ok (.aload_n 0, 1) := dk_get _ da_cX0_exchange_0 5 _ _ _ rfl
theorem dX0_exchange_8 : decode cX0_exchange 8 = .ok (.getfield 9, 3) := dk_get _ da_cX0_exchange_0 6 _ _ _ rfl
theorem dX0_exchange_11 : decode cX0_exchange 11 = .ok (.iload_n 1, 1) := dk_get _ da_cX0_exchange_0 7 _ _ _ rfl
theorem dX0_exchange_12 : decode cX0_exchange 12 = .ok (.aload_n 0, 1) := dk_get _ da_cX0_exchange_0 8 _ _ _ rfl
theorem dX0_exchange_13 : decode cX0_exchange 13 = .ok (.getfield 9, 3) := dk_get _ da_cX0_exchange_0 9 _ _ _ rfl
theorem dX0_exchange_16 : decode cX0_exchange 16 = .ok (.iload_n 2, 1) := dk_get _ da_cX0_exchange_0 10 _ _ _ rfl
theorem dX0_exchange_17 : decode cX0_exchange 17 = .ok (.iaload, 1) := dk_get _ da_cX0_exchange_0 11 _ _ _ rfl
theorem dX0_exchange_18 : decode cX0_exchange 18 = .ok (.iastore, 1) := dk_get _ da_cX0_exchange_0 12 _ _ _ rfl
theorem dX0_exchange_19 : decode cX0_exchange 19 = .ok (.aload_n 0, 1) := dk_get _ da_cX0_exchange_0 13 _ _ _ rfl
theorem dX0_exchange_20 : decode cX0_exchange 20 = .ok (.getfield 9, 3) := dk_get _ da_cX0_exchange_0 14 _ _ _ rfl
theorem dX0_exchange_23 : decode cX0_exchange 23 = .ok (.iload_n 2, 1) := dk_get _ da_cX0_exchange_0 15 _ _ _ rfl
theorem dX0_exchange_24 : decode cX0_exchange 24 = .ok (.iload_n 3, 1) := dk_get _ da_cX0_exchange_0 16 _ _ _ rfl
theorem dX0_exchange_25 : decode cX0_exchange 25 = .ok (.iastore, 1) := dk_get _ da_cX0_exchange_0 17 _ _ _ rfl
theorem dX0_exchange_26 : decode cX0_exchange 26 = .ok (.return_, 1) := dk_get _ da_cX0_exchange_0 18 _ _ _ rfl
def dt_cX0_firstLike_0 : List (Nat × Instr × Nat) := [(0, .iconst 0, 1), (1, .istore_n 2, 1), (2, .iload_n 2, 1), (3, .iload_n 1, 1), (4, .if_icmp .ge 26, 3), (7, .aload_n 0, 1), (8, .getfield 9, 3), (11, .iload_n 2, 1), (12, .iaload, 1), (13, .aload_n 0, 1), (14, .getfield 9, 3), (17, .iload_n 1, 1), (18, .iaload, 1), (19, .if_icmp .ne 5, 3), (22, .iload_n 2, 1), (23, .ireturn, 1), (24, .iinc 2 1, 3), (27, .goto (-25), 3), (30, .iload_n 1, 1), (31, .ireturn, 1)]
theorem da_cX0_firstLike_0 : dk_all cX0_firstLike dt_cX0_firstLike_0 = true := by decide +kernel
theorem dX0_firstLike_0 : decode cX0_firstLike 0 = .ok (.iconst 0, 1) := dk_get _ da_cX0_firstLike_0 0 _ _ _ rfl
theorem dX0_firstLike_1 : decode cX0_firstLike 1 = .ok (.istore_n 2, 1) := dk_get _ da_cX0_firstLike_0 1 _ _ _ rfl
theorem dX0_firstLike_2 : decode cX0_firstLike 2 = .ok (.iload_n 2, 1) := dk_get _ da_cX0_firstLike_0 2 _ _ _ rfl
theorem dX0_firstLike_3 : decode cX0_firstLike 3 = .ok (.iload_n 1, 1) := dk_get _ da_cX0_firstLike_0 3 _ _ _ rfl
theorem dX0_firstLike_4 : decode cX0_firstLike 4 = .ok (.if_icmp .ge 26, 3) := dk_get _ da_cX0_firstLike_0 4 _ _ _ rfl
theorem dX0_firstLike_7 : decode cX0_firstLike 7 = .ok (.aload_n 0, 1) := dk_get _ da_cX0_firstLike_0 5 _ _ _ rfl
theorem dX0_firstLike_8 : decode cX0_firstLike 8 = .ok (.getfield 9, 3) := dk_get _ da_cX0_firstLike_0 6 _ _ _ rfl
theorem dX0_firstLike_11 : decode cX0_firstLike 11 = .ok (.iload_n 2, 1) := dk_get _ da_cX0_firstLike_0 7 _ _ _ rfl
theorem dX0_firstLike_12 : decode cX0_firstLike 12 = .ok (.iaload, 1) := dk_get _ da_cX0_firstLike_0 8 _ _ _ rfl
theorem dX0_firstLike_13 : decode cX0_firstLike 13 = .ok (.aload_n 0, 1) := dk_get _ da_cX0_firstLike_0 9 _ _ _ rfl
theorem dX0_firstLike_14 : decode cX0_firstLike 14 = .ok (.getfield 9, 3) := dk_get _ da_cX0_firstLike_0 10 _ _ _ rfl
theorem dX0_firstLike_17 : decode cX0_firstLike 17 = .ok (.iload_n 1, 1) := dk_get _ da_cX0_firstLike_0 11 _ _ _ rfl
theorem dX0_firstLike_18 : decode cX0_firstLike 18 = .ok (.iaload, 1) := dk_get _ da_cX0_firstLike_0 12 _ _ _ rfl
theorem dX0_firstLike_19 : decode cX0_firstLike 19 = .ok (.if_icmp .ne 5, 3) := dk_get _ da_cX0_firstLike_0 13 _ _ _ rfl
theorem dX0_firstLike_22 : decode cX0_firstLike 22 = .ok (.iload_n 2, 1) := dk_get _ da_cX0_firstLike_0 14 _ _ _ rfl
theorem dX0_firstLike_23 : decode cX0_firstLike 23 = .ok (.ireturn, 1) := dk_get _ da_cX0_firstLike_0 15 _ _ _ rfl
theorem dX0_firstLike_24 : decode cX0_firstLike 24 = .ok (.iinc 2 1, 3) := dk_get _ da_cX0_firstLike_0 16 _ _ _ rfl
theorem dX0_firstLike_27 : decode cX0_firstLike 27 = .ok (.goto (-25), 3) := dk_get _ da_cX0_firstLike_0 17 _ _ _ rfl
theorem dX0_firstLike_30 : decode cX0_firstLike 30 = .ok (.iload_n 1, 1) := dk_get _ da_cX0_firstLike_0 18 _ _ _ rfl
theorem dX0_firstLike_31 : decode cX0_firstLike 31 = .ok (.ireturn, 1) := dk_get _ da_cX0_firstLike_0 19 _ _ _ rfl
set_option maxRecDepth 20000 in
theorem ggX0_leader_X0_oftenIn : GoodIn wsX0_leader wsX0_oftenIn := goodIn_r _ [7, 2, 11, 12] rfl (by decide +kernel)
set_option maxRecDepth 20000 in
theorem gX0_leader_X0_oftenIn : GoodIn wsX0_leader (wsV RX0 24 RX0 yX0_oftenIn wsX0_oftenIn) := goodIn_app (goodIn_r _ [3, 4, 5, 6] rfl (by decide +kernel)) ggX0_leader_X0_oftenIn
set_option maxRecDepth 20000 in
theorem ggX0_leader_X4_isHeavy : GoodIn wsX0_leader wsX4_isHeavy := goodIn_r _ [10] rfl (by decide +kernel)
def dt_cX0_leader_0 : List (Nat × Instr × Nat) := [(0, .ldc 23, 2), (2, .istore_n 3, 1), (3, .iconst 0, 1), (4, .istore 4, 2), (6, .iload_n 1, 1), (7, .istore 5, 2), (9, .iload 5, 2), (11, .iload_n 2, 1), (12, .if_icmp .ge 49, 3), (15, .iload 4, 2), (17, .ifCond .ne 17, 3), (20, .aload_n 0, 1), (21, .getfield 9, 3), (24, .iload 5, 2), (26, .iaload, 1), (27, .istore_n 3, 1), (28, .iconst 1, 1), (29, .istore 4, 2), (31, .goto 24, 3), (34, .iload 4, 2), (36, .aload_n 0, 1), (37, .getfield 9, 3), (40, .iload 5, 2), (42, .iaload, 1), (43, .iload_n 3, 1), (44, .if_icmp .ne 7, 3), (47, .iconst 1, 1), (48, .goto 4, 3), (51, .iconst (-1), 1), (52, .iadd, 1), (53, .istore 4, 2), (55, .iinc 5 1, 3), (58, .goto (-49), 3), (61, .aload_n 0, 1), (62, .iload_n 3, 1), (63, .iload_n 1, 1), (64, .iload_n 2, 1), (65, .invokevirtual 24, 3), (68, .iload_n 2, 1), (69, .iload_n 1, 1), (70, .isub, 1), (71, .iconst 1, 1), (72, .iconst 2, 1), (73, .invokestatic 28, 3), (76, .ifCond .eq 7, 3), (79, .iload_n 3, 1), (80, .goto 5, 3), (83, .ldc 23, 2), (85, .ireturn, 1)]
theorem da_cX0_leader_0 : dk_all cX0_leader dt_cX0_leader_0 = true := by decide +kernel
theorem dX0_leader_0 : decode cX0_leader 0 = .ok (.ldc 23, 2) := dk_get _ da_cX0_leader_0 0 _ _ _ rfl
theorem dX0_leader_2 : decode cX0_leader 2 = .ok (.istore_n 3, 1) := dk_get _ da_cX0_leader_0 1 _ _ _ rfl
theorem dX0_leader_3 : decode cX0_leader 3 = .ok (.iconst 0, 1) := dk_get _ da_cX0_leader_0 2 _ _ _ rfl
theorem dX0_leader_4 : decode cX0_leader 4 = .ok (.istore 4, 2) := dk_get _ da_cX0_leader_0 3 _ _ _ rfl
theorem dX0_leader_6 : decode cX0_leader 6 = .ok (.iload_n 1, 1) := dk_get _ da_cX0_leader_0 4 _ _ _ rfl
theorem dX0_leader_7 : decode cX0_leader 7 = .ok (.istore 5, 2) := dk_get _ da_cX0_leader_0 5 _ _ _ rfl
theorem dX0_leader_9 : decode cX0_leader 9 = .ok (.iload 5, 2) := dk_get _ da_cX0_leader_0 6 _ _ _ rfl
theorem dX0_leader_11 : decode cX0_leader 11 = .ok (.iload_n 2, 1) := dk_get _ da_cX0_leader_0 7 _ _ _ rfl
theorem dX0_leader_12 : decode cX0_leader 12 = .ok (.if_icmp .ge 49, 3) := dk_get _ da_cX0_leader_0 8 _ _ _ rfl
theorem dX0_leader_15 : decode cX0_leader 15 = .ok (.iload 4, 2) := dk_get _ da_cX0_leader_0 9 _ _ _ rfl
theorem dX0_leader_17 : decode cX0_leader 17 = .ok (.ifCond .ne 17, 3) := dk_get _ da_cX0_leader_0 10 _ _ _ rfl
theorem dX0_leader_20 : decode cX0_leader 20 = .ok (.aload_n 0, 1) := dk_get _ da_cX0_leader_0 11 _ _ _ rfl
theorem dX0_leader_21 : decode cX0_leader 21 = .ok (.getfield 9, 3) := dk_get _ da_cX0_leader_0 12 _ _ _ rfl
theorem dX0_leader_24 : decode cX0_leader 24 = .ok (.iload 5, 2) := dk_get _ da_cX0_leader_0 13 _ _ _ rfl
theorem dX0_leader_26 : decode cX0_leader 26 = .ok (.iaload, 1) := dk_get _ da_cX0_leader_0 14 _ _ _ rfl
theorem dX0_leader_27 : decode cX0_leader 27 = .ok (.istore_n 3, 1) := dk_get _ da_cX0_leader_0 15 _ _ _ rfl
theorem dX0_leader_28 : decode cX0_leader 28 = .ok (.iconst 1, 1) := dk_get _ da_cX0_leader_0 16 _ _ _ rfl
theorem dX0_leader_29 : decode cX0_leader 29 = .ok (.istore 4, 2) := dk_get _ da_cX0_leader_0 17 _ _ _ rfl
theorem dX0_leader_31 : decode cX0_leader 31 = .ok (.goto 24, 3) := dk_get _ da_cX0_leader_0 18 _ _ _ rfl
theorem dX0_leader_34 : decode cX0_leader 34 = .ok (.iload 4, 2) := dk_get _ da_cX0_leader_0 19 _ _ _ rfl
theorem dX0_leader_36 : decode cX0_leader 36 = .ok (.aload_n 0, 1) := dk_get _ da_cX0_leader_0 20 _ _ _ rfl
theorem dX0_leader_37 : decode cX0_leader 37 = .ok (.getfield 9, 3) := dk_get _ da_cX0_leader_0 21 _ _ _ rfl
theorem dX0_leader_40 : decode cX0_leader 40 = .ok (.iload 5, 2) := dk_get _ da_cX0_leader_0 22 _ _ _ rfl
theorem dX0_leader_42 : decode cX0_leader 42 = .ok (.iaload, 1) := dk_get _ da_cX0_leader_0 23 _ _ _ rfl
theorem dX0_leader_43 : decode cX0_leader 43 = .ok (.iload_n 3, 1) := dk_get _ da_cX0_leader_0 24 _ _ _ rfl
theorem dX0_leader_44 : decode cX0_leader 44 = .ok (.if_icmp .ne 7, 3) := dk_get _ da_cX0_leader_0 25 _ _ _ rfl
theorem dX0_leader_47 : decode cX0_leader 47 = .ok (.iconst 1, 1) := dk_get _ da_cX0_leader_0 26 _ _ _ rfl
theorem dX0_leader_48 : decode cX0_leader 48 = .ok (.goto 4, 3) := dk_get _ da_cX0_leader_0 27 _ _ _ rfl
theorem dX0_leader_51 : decode cX0_leader 51 = .ok (.iconst (-1), 1) := dk_get _ da_cX0_leader_0 28 _ _ _ rfl
theorem dX0_leader_52 : decode cX0_leader 52 = .ok (.iadd, 1) := dk_get _ da_cX0_leader_0 29 _ _ _ rfl
theorem dX0_leader_53 : decode cX0_leader 53 = .ok (.istore 4, 2) := dk_get _ da_cX0_leader_0 30 _ _ _ rfl
theorem dX0_leader_55 : decode cX0_leader 55 = .ok (.iinc 5 1, 3) := dk_get _ da_cX0_leader_0 31 _ _ _ rfl
theorem dX0_leader_58 : decode cX0_leader 58 = .ok (.goto (-49), 3) := dk_get _ da_cX0_leader_0 32 _ _ _ rfl
theorem dX0_leader_61 : decode cX0_leader 61 = .ok (.aload_n 0, 1) := dk_get _ da_cX0_leader_0 33 _ _ _ rfl
theorem dX0_leader_62 : decode cX0_leader 62 = .ok (.iload_n 3, 1) := dk_get _ da_cX0_leader_0 34 _ _ _ rfl
theorem dX0_leader_63 : decode cX0_leader 63 = .ok (.iload_n 1, 1) := dk_get _ da_cX0_leader_0 35 _ _ _ rfl
theorem dX0_leader_64 : decode cX0_leader 64 = .ok (.iload_n 2, 1) := dk_get _ da_cX0_leader_0 36 _ _ _ rfl
theorem dX0_leader_65 : decode cX0_leader 65 = .ok (.invokevirtual 24, 3) := dk_get _ da_cX0_leader_0 37 _ _ _ rfl
theorem dX0_leader_68 : decode cX0_leader 68 = .ok (.iload_n 2, 1) := dk_get _ da_cX0_leader_0 38 _ _ _ rfl
theorem dX0_leader_69 : decode cX0_leader 69 = .ok (.iload_n 1, 1) := dk_get _ da_cX0_leader_0 39 _ _ _ rfl
theorem dX0_leader_70 : decode cX0_leader 70 = .ok (.isub, 1) := dk_get _ da_cX0_leader_0 40 _ _ _ rfl
theorem dX0_leader_71 : decode cX0_leader 71 = .ok (.iconst 1, 1) := dk_get _ da_cX0_leader_0 41 _ _ _ rfl
theorem dX0_leader_72 : decode cX0_leader 72 = .ok (.iconst 2, 1) := dk_get _ da_cX0_leader_0 42 _ _ _ rfl
theorem dX0_leader_73 : decode cX0_leader 73 = .ok (.invokestatic 28, 3) := dk_get _ da_cX0_leader_0 43 _ _ _ rfl
theorem dX0_leader_76 : decode cX0_leader 76 = .ok (.ifCond .eq 7, 3) := dk_get _ da_cX0_leader_0 44 _ _ _ rfl
theorem dX0_leader_79 : decode cX0_leader 79 = .ok (.iload_n 3, 1) := dk_get _ da_cX0_leader_0 45 _ _ _ rfl
theorem dX0_leader_80 : decode cX0_leader 80 = .ok (.goto 5, 3) := dk_get _ da_cX0_leader_0 46 _ _ _ rfl
theorem dX0_leader_83 : decode cX0_leader 83 = .ok (.ldc 23, 2) := dk_get _ da_cX0_leader_0 47 _ _ _ rfl
theorem dX0_leader_85 : decode cX0_leader 85 = .ok (.ireturn, 1) := dk_get _ da_cX0_leader_0 48 _ _ _ rfl

