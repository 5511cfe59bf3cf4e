abbrev wsX30 : List Cond := u_ws RX3 TX3 5
theorem nmX3 : ∀ a, a < 5 → ∀ b, b < 5 → a ≠ b → (TX3 a).2.1 ≠ (TX3 b).2.1 := by decide +kernel
theorem tyX3_ok : ∀ k, k < 5 → parseFieldDescriptor (TX3 k).2.2.1 = some (tyX3 k) := by decide +kernel
abbrev cX3_clear : ByteArray := prog_5_method_2_code
def yX3_clear : MethodName := ⟨RX3, "clear", "()V"⟩
abbrev cX3_add : ByteArray := prog_5_method_3_code
def yX3_add : MethodName := ⟨RX3, "add", "(II)V"⟩
abbrev cX3_join : ByteArray := prog_5_method_4_code
def yX3_join : MethodName := ⟨RX3, "join", "(LMajorityIndex$Votes;)V"⟩
abbrev cX3_cancel : ByteArray := prog_5_method_5_code
def yX3_cancel : MethodName := ⟨RX3, "cancel", "(I)V"⟩
abbrev cX3_order : ByteArray := prog_5_method_6_code
def yX3_order : MethodName := ⟨RX3, "order", "()V"⟩
abbrev cX3_keepHeavy : ByteArray := prog_5_method_7_code
def yX3_keepHeavy : MethodName := ⟨RX3, "keepHeavy", "(III)V"⟩
abbrev cX3_numberOf : ByteArray := prog_5_method_8_code
def yX3_numberOf : MethodName := ⟨RX3, "numberOf", "(I)I"⟩
abbrev cX3_total : ByteArray := prog_5_method_9_code
def yX3_total : MethodName := ⟨RX3, "total", "()I"⟩
abbrev cX3_isAhead : ByteArray := prog_5_method_10_code
def yX3_isAhead : MethodName := ⟨RX3, "isAhead", "(II)Z"⟩
abbrev cX3_exchange : ByteArray := prog_5_method_11_code
def yX3_exchange : MethodName := ⟨RX3, "exchange", "(II)V"⟩
abbrev cX4_isHeavy : ByteArray := prog_1_method_48_code
def yX4_isHeavy : MethodName := ⟨RX4, "isHeavy", "(IIII)Z"⟩
def wsX4_isHeavy : List Cond := .code yX4_isHeavy cX4_isHeavy 4 (some .boolean) :: ([])
def wsX3_clear : List Cond := .code yX3_clear cX3_clear 1 none :: ([.fieldLink RX3 18 "MajorityIndex$Votes" "size" "I", .fieldLink RX3 22 "MajorityIndex$Votes" "lost" "I", .fieldLink RX3 25 "MajorityIndex$Votes" "lessBy" "I"] ++ wsX30)
def wsX3_add : List Cond := .code yX3_add cX3_add 4 none :: ([.fieldLink RX3 18 "MajorityIndex$Votes" "size" "I", .fieldLink RX3 9 "MajorityIndex$Votes" "value" "[I", .fieldLink RX3 15 "MajorityIndex$Votes" "number" "[I"] ++ wsX30)
def wsX3_isAhead : List Cond := .code yX3_isAhead cX3_isAhead 3 (some .boolean) :: ([.fieldLink RX3 15 "MajorityIndex$Votes" "number" "[I", .fieldLink RX3 9 "MajorityIndex$Votes" "value" "[I"] ++ wsX30)
def wsX3_exchange : List Cond := .code yX3_exchange cX3_exchange 5 none :: ([.fieldLink RX3 9 "MajorityIndex$Votes" "value" "[I", .fieldLink RX3 15 "MajorityIndex$Votes" "number" "[I"] ++ wsX30)
def wsX3_order : List Cond := .code yX3_order cX3_order 3 none :: ([.fieldLink RX3 18 "MajorityIndex$Votes" "size" "I", .methodLink RX3 35 yX3_isAhead, .instanceMethod yX3_isAhead, .selects RX3 yX3_isAhead yX3_isAhead, .initialized RX3, .code yX3_isAhead cX3_isAhead 3 (some .boolean), .fieldLink RX3 15 "MajorityIndex$Votes" "number" "[I", .fieldLink RX3 9 "MajorityIndex$Votes" "value" "[I", .methodLink RX3 39 yX3_exchange, .instanceMethod yX3_exchange, .selects RX3 yX3_exchange yX3_exchange, .code yX3_exchange cX3_exchange 5 none] ++ wsX30)
def wsX3_cancel : List Cond := .code yX3_cancel cX3_cancel 4 none :: ([.fieldLink RX3 18 "MajorityIndex$Votes" "size" "I", .fieldLink RX3 15 "MajorityIndex$Votes" "number" "[I", .fieldLink RX3 25 "MajorityIndex$Votes" "lessBy" "I", .fieldLink RX3 22 "MajorityIndex$Votes" "lost" "I", .methodLink RX3 32 yX3_order, .instanceMethod yX3_order, .selects RX3 yX3_order yX3_order, .initialized RX3, .code yX3_order cX3_order 3 none, .methodLink RX3 35 yX3_isAhead, .instanceMethod yX3_isAhead, .selects RX3 yX3_isAhead yX3_isAhead, .code yX3_isAhead cX3_isAhead 3 (some .boolean), .fieldLink RX3 9 "MajorityIndex$Votes" "value" "[I", .methodLink RX3 39 yX3_exchange, .instanceMethod yX3_exchange, .selects RX3 yX3_exchange yX3_exchange, .code yX3_exchange cX3_exchange 5 none] ++ wsX30)
def wsX3_join : List Cond := .code yX3_join cX3_join 3 none :: ([.fieldLink RX3 18 "MajorityIndex$Votes" "size" "I", .fieldLink RX3 9 "MajorityIndex$Votes" "value" "[I", .fieldLink RX3 15 "MajorityIndex$Votes" "number" "[I", .fieldLink RX3 22 "MajorityIndex$Votes" "lost" "I", .methodLink RX3 28 yX3_add, .instanceMethod yX3_add, .selects RX3 yX3_add yX3_add, .initialized RX3, .code yX3_add cX3_add 4 none] ++ wsX30)
def wsX3_keepHeavy : List Cond := .code yX3_keepHeavy cX3_keepHeavy 6 none :: ([.fieldLink RX3 18 "MajorityIndex$Votes" "size" "I", .fieldLink RX3 15 "MajorityIndex$Votes" "number" "[I", .static yX4_isHeavy, .initialized RX4, .code yX4_isHeavy cX4_isHeavy 4 (some .boolean), .methodLink RX3 39 yX3_exchange, .instanceMethod yX3_exchange, .selects RX3 yX3_exchange yX3_exchange, .initialized RX3, .code yX3_exchange cX3_exchange 5 none, .fieldLink RX3 9 "MajorityIndex$Votes" "value" "[I", .methodLink RX3 32 yX3_order, .instanceMethod yX3_order, .selects RX3 yX3_order yX3_order, .code yX3_order cX3_order 3 none, .methodLink RX3 35 yX3_isAhead, .instanceMethod yX3_isAhead, .selects RX3 yX3_isAhead yX3_isAhead, .code yX3_isAhead cX3_isAhead 3 (some .boolean)] ++ wsX30)
def wsX3_numberOf : List Cond := .code yX3_numberOf cX3_numberOf 3 (some .int) :: ([.fieldLink RX3 18 "MajorityIndex$Votes" "size" "I", .fieldLink RX3 9 "MajorityIndex$Votes" "value" "[I", .fieldLink RX3 15 "MajorityIndex$Votes" "number" "[I"] ++ wsX30)
def wsX3_total : List Cond := .code yX3_total cX3_total 3 (some .int) :: ([.fieldLink RX3 18 "MajorityIndex$Votes" "size" "I", .fieldLink RX3 15 "MajorityIndex$Votes" "number" "[I"] ++ wsX30)
def dt_cX3_clear_0 : List (Nat × Instr × Nat) := [(0, .aload_n 0, 1), (1, .iconst 0, 1), (2, .putfield 18, 3), (5, .aload_n 0, 1), (6, .iconst 0, 1), (7, .putfield 22, 3), (10, .aload_n 0, 1), (11, .iconst 0, 1), (12, .putfield 25, 3), (15, .return_, 1)]
theorem da_cX3_clear_0 : dk_all cX3_clear dt_cX3_clear_0 = true := by decide +kernel
theorem dX3_clear_0 : decode cX3_clear 0 = .ok (.aload_n 0, 1) := dk_get _ da_cX3_clear_0 0 _ _ _ rfl
theorem dX3_clear_1 : decode cX3_clear 1 = .ok (.iconst 0, 1) := dk_get _ da_cX3_clear_0 1 _ _ _ rfl
theorem dX3_clear_2 : decode cX3_clear 2 = .ok (.putfield 18, 3) := dk_get _ da_cX3_clear_0 2 _ _ _ rfl
theorem dX3_clear_5 : decode cX3_clear 5 = .ok (.aload_n 0, 1) := dk_get _ da_cX3_clear_0 3 _ _ _ rfl
theorem dX3_clear_6 : decode cX3_clear 6 = .ok (.iconst 0, 1) := dk_get _ da_cX3_clear_0 4 _ _ _ rfl
theorem dX3_clear_7 : decode cX3_clear 7 = .ok (.putfield 22, 3) := dk_get _ da_cX3_clear_0 5 _ _ _ rfl
theorem dX3_clear_10 : decode cX3_clear 10 = .ok (.aload_n 0, 1) := dk_get _ da_cX3_clear_0 6 _ _ _ rfl
theorem dX3_clear_11 : decode cX3_clear 11 = .ok (.iconst 0, 1) := dk_get _ da_cX3_clear_0 7 _ _ _ rfl
theorem dX3_clear_12 : decode cX3_clear 12 = .ok (.putfield 25, 3) := dk_get _ da_cX3_clear_0 8 _ _ _ rfl
theorem dX3_clear_15 : decode cX3_clear 15 = .ok (.return_, 1) := dk_get _ da_cX3_clear_0 9 _ _ _ rfl
def dt_cX3_add_0 : List (Nat × Instr × Nat) := [(0, .iconst 0, 1), (1, .istore_n 3, 1), (2, .iload_n 3, 1), (3, .aload_n 0, 1), (4, .getfield 18, 3), (7, .if_icmp .ge 30, 3), (10, .aload_n 0, 1), (11, .getfield 9, 3), (14, .iload_n 3, 1), (15, .iaload, 1), (16, .iload_n 1, 1), (17, .if_icmp .ne 14, 3), (20, .aload_n 0, 1), (21, .getfield 15, 3), (24, .iload_n 3, 1), (25, .dup2, 1), (26, .iaload, 1), (27, .iload_n 2, 1), (28, .iadd, 1), (29, .iastore, 1), (30, .return_, 1), (31, .iinc 3 1, 3), (34, .goto (-32), 3), (37, .aload_n 0, 1), (38, .getfield 18, 3), (41, .aload_n 0, 1), (42, .getfield 9, 3), (45, .arraylength, 1), (46, .if_icmp .ge 33, 3), (49, .aload_n 0, 1), (50, .getfield 9, 3), (53, .aload_n 0, 1), (54, .getfield 18, 3), (57, .iload_n 1, 1), (58, .iastore, 1), (59, .aload_n 0, 1), (60, .getfield 15, 3), (63, .aload_n 0, 1), (64, .getfield 18, 3), (67, .iload_n 2, 1), (68, .iastore, 1), (69, .aload_n 0, 1), (70, .dup, 1), (71, .getfield 18, 3), (74, .iconst 1, 1), (75, .iadd, 1), (76, .putfield 18, 3), (79, .return_, 1)]
theorem da_cX3_add_0 : dk_all cX3_add dt_cX3_add_0 = true := by decide +kernel
theorem dX3_add_0 : decode cX3_add 0 = .ok (.iconst 0, 1) := dk_get _ da_cX3_add_0 0 _ _ _ rfl
theorem dX3_add_1 : decode cX3_add 1 = .ok (.istore_n 3, 1) := dk_get _ da_cX3_add_0 1 _ _ _ rfl
theorem dX3_add_2 : decode cX3_add 2 = .ok (.iload_n 3, 1) := dk_get _ da_cX3_add_0 2 _ _ _ rfl
theorem dX3_add_3 : decode cX3_add 3 = .ok (.aload_n 0, 1) := dk_get _ da_cX3_add_0 3 _ _ _ rfl
theorem dX3_add_4 : decode cX3_add 4 = .ok (.getfield 18, 3) := dk_get _ da_cX3_add_0 4 _ _ _ rfl
theorem dX3_add_7 : decode cX3_add 7 = .ok (.if_icmp .ge 30, 3) := dk_get _ da_cX3_add_0 5 _ _ _ rfl
theorem dX3_add_10 : decode cX3_add 10 = .ok (.aload_n 0, 1) := dk_get _ da_cX3_add_0 6 _ _ _ rfl
theorem dX3_add_11 : decode cX3_add 11 = .ok (.getfield 9, 3) := dk_get _ da_cX3_add_0 7 _ _ _ rfl
theorem dX3_add_14 : decode cX3_add 14 = .ok (.iload_n 3, 1) := dk_get _ da_cX3_add_0 8 _ _ _ rfl
theorem dX3_add_15 : decode cX3_add 15 = .ok (.iaload, 1) := dk_get _ da_cX3_add_0 9 _ _ _ rfl
theorem dX3_add_16 : decode cX3_add 16 = .ok (.iload_n 1, 1) := dk_get _ da_cX3_add_0 10 _ _ _ rfl
theorem dX3_add_17 : decode cX3_add 17 = .ok (.if_icmp .ne 14, 3) := dk_get _ da_cX3_add_0 11 _ _ _ rfl
theorem dX3_add_20 : decode cX3_add 20 = .ok (.aload_n 0, 1) := dk_get _ da_cX3_add_0 12 _ _ _ rfl
theorem dX3_add_21 : decode cX3_add 21 = .ok (.getfield 15, 3) := dk_get _ da_cX3_add_0 13 _ _ _ rfl
theorem dX3_add_24 : decode cX3_add 24 = .ok (.iload_n 3, 1) := dk_get _ da_cX3_add_0 14 _ _ _ rfl
theorem dX3_add_25 : decode cX3_add 25 = .ok (.dup2, 1) := dk_get _ da_cX3_add_0 15 _ _ _ rfl
theorem dX3_add_26 : decode cX3_add 26 = .ok (.iaload, 1) := dk_get _ da_cX3_add_0 16 _ _ _ rfl
theorem dX3_add_27 : decode cX3_add 27 = .ok (.iload_n 2, 1) := dk_get _ da_cX3_add_0 17 _ _ _ rfl
theorem dX3_add_28 : decode cX3_add 28 = .ok (.iadd, 1) := dk_get _ da_cX3_add_0 18 _ _ _ rfl
theorem dX3_add_29 : decode cX3_add 29 = .ok (.iastore, 1) := dk_get _ da_cX3_add_0 19 _ _ _ rfl
theorem dX3_add_30 : decode cX3_add 30 = .ok (.return_, 1) := dk_get _ da_cX3_add_0 20 _ _ _ rfl
theorem dX3_add_31 : decode cX3_add 31 = .ok (.iinc 3 1, 3) := dk_get _ da_cX3_add_0 21 _ _ _ rfl
theorem dX3_add_34 : decode cX3_add 34 = .ok (.goto (-32), 3) := dk_get _ da_cX3_add_0 22 _ _ _ rfl
theorem dX3_add_37 : decode cX3_add 37 = .ok (.aload_n 0, 1) := dk_get _ da_cX3_add_0 23 _ _ _ rfl
theorem dX3_add_38 : decode cX3_add 38 = .ok (.getfield 18, 3) := dk_get _ da_cX3_add_0 24 _ _ _ rfl
theorem dX3_add_41 : decode cX3_add 41 = .ok (.aload_n 0, 1) := dk_get _ da_cX3_add_0 25 _ _ _ rfl
theorem dX3_add_42 : decode cX3_add 42 = .ok (.getfield 9, 3) := dk_get _ da_cX3_add_0 26 _ _ _ rfl
theorem dX3_add_45 : decode cX3_add 45 = .ok (.arraylength, 1) := dk_get _ da_cX3_add_0 27 _ _ _ rfl
theorem dX3_add_46 : decode cX3_add 46 = .ok (.if_icmp .ge 33, 3) := dk_get _ da_cX3_add_0 28 _ _ _ rfl
theorem dX3_add_49 : decode cX3_add 49 = .ok (.aload_n 0, 1) := dk_get _ da_cX3_add_0 29 _ _ _ rfl
theorem dX3_add_50 : decode cX3_add 50 = .ok (.getfield 9, 3) := dk_get _ da_cX3_add_0 30 _ _ _ rfl
theorem dX3_add_53 : decode cX3_add 53 = .ok (.aload_n 0, 1) := dk_get _ da_cX3_add_0 31 _ _ _ rfl
theorem dX3_add_54 : decode cX3_add 54 = .ok (.getfield 18, 3) := dk_get _ da_cX3_add_0 32 _ _ _ rfl
theorem dX3_add_57 : decode cX3_add 57 = .ok (.iload_n 1, 1) := dk_get _ da_cX3_add_0 33 _ _ _ rfl
theorem dX3_add_58 : decode cX3_add 58 = .ok (.iastore, 1) := dk_get _ da_cX3_add_0 34 _ _ _ rfl
theorem dX3_add_59 : decode cX3_add 59 = .ok (.aload_n 0, 1) := dk_get _ da_cX3_add_0 35 _ _ _ rfl
theorem dX3_add_60 : decode cX3_add 60 = .ok (.getfield 15, 3) := dk_get _ da_cX3_add_0 36 _ _ _ rfl
theorem dX3_add_63 : decode cX3_add 63 = .ok (.aload_n 0, 1) := dk_get _ da_cX3_add_0 37 _ _ _ rfl
theorem dX3_add_64 : decode cX3_add 64 = .ok (.getfield 18, 3) := dk_get _ da_cX3_add_0 38 _ _ _ rfl
theorem dX3_add_67 : decode cX3_add 67 = .ok (.iload_n 2, 1) := dk_get _ da_cX3_add_0 39 _ _ _ rfl
theorem dX3_add_68 : decode cX3_add 68 = .ok (.iastore, 1) := dk_get _ da_cX3_add_0 40 _ _ _ rfl
theorem dX3_add_69 : decode cX3_add 69 = .ok (.aload_n 0, 1) := dk_get _ da_cX3_add_0 41 _ _ _ rfl
theorem dX3_add_70 : decode cX3_add 70 = .ok (.dup, 1) := dk_get _ da_cX3_add_0 42 _ _ _ rfl
theorem dX3_add_71 : decode cX3_add 71 = .ok (.getfield 18, 3) := dk_get _ da_cX3_add_0 43 _ _ _ rfl
theorem dX3_add_74 : decode cX3_add 74 = .ok (.iconst 1, 1) := dk_get _ da_cX3_add_0 44 _ _ _ rfl
theorem dX3_add_75 : decode cX3_add 75 = .ok (.iadd, 1) := dk_get _ da_cX3_add_0 45 _ _ _ rfl
theorem dX3_add_76 : decode cX3_add 76 = .ok (.putfield 18, 3) := dk_get _ da_cX3_add_0 46 _ _ _ rfl
theorem dX3_add_79 : decode cX3_add 79 = .ok (.return_, 1) := dk_get _ da_cX3_add_0 47 _ _ _ rfl
set_option maxRecDepth 20000 in
theorem ggX3_join_X3_add : GoodIn wsX3_join wsX3_add := goodIn_r _ [9, 1, 2, 3, 10, 11, 12, 13, 14] rfl (by decide +kernel)
set_option maxRecDepth 20000 in
theorem gX3_join_X3_add : GoodIn wsX3_join (wsV RX3 28 RX3 yX3_add wsX3_add) := goodIn_app (goodIn_r _ [5, 6, 7, 8] rfl (by decide +kernel)) ggX3_join_X3_add
def dt_cX3_join_0 : List (Nat × Instr × Nat) := [(0, .iconst 0, 1), (1, .istore_n 2, 1), (2, .iload_n 2, 1), (3, .aload_n 1, 1), (4, .getfield 18, 3), (7, .if_icmp .ge 25, 3), (10, .aload_n 0, 1), (11, .aload_n 1, 1), (12, .getfield 9, 3), (15, .iload_n 2, 1), (16, .iaload, 1), (17, .aload_n 1, 1), (18, .getfield 15, 3), (21, .iload_n 2, 1), (22, .iaload, 1), (23, .invokevirtual 28, 3), (26, .iinc 2 1, 3), (29, .goto (-27), 3), (32, .aload_n 0, 1), (33, .dup, 1), (34, .getfield 22, 3), (37, .aload_n 1, 1), (38, .getfield 22, 3), (41, .iadd, 1), (42, .putfield 22, 3), (45, .return_, 1)]
theorem da_cX3_join_0 : dk_all cX3_join dt_cX3_join_0 = true := by decide +kernel
theorem dX3_join_0 : decode cX3_join 0 = .ok (.iconst 0, 1) := dk_get _ da_cX3_join_0 0 _ _ _ rfl
theorem dX3_join_1 : decode cX3_join 1 = .ok (.istore_n 2, 1) := dk_get _ da_cX3_join_0 1 _ _ _ rfl
theorem dX3_join_2 : decode cX3_join 2 = .ok (.iload_n 2, 1) := dk_get _ da_cX3_join_0 2 _ _ _ rfl
theorem dX3_join_3 : decode cX3_join 3 = .ok (.aload_n 1, 1) := dk_get _ da_cX3_join_0 3 _ _ _ rfl
theorem dX3_join_4 : decode cX3_join 4 = .ok (.getfield 18, 3) := dk_get _ da_cX3_join_0 4 _ _ _ rfl
theorem dX3_join_7 : decode cX3_join 7 = .ok (.if_icmp .ge 25, 3) := dk_get _ da_cX3_join_0 5 _ _ _ rfl
theorem dX3_join_10 : decode cX3_join 10 = .ok (.aload_n 0, 1) := dk_get _ da_cX3_join_0 6 _ _ _ rfl
theorem dX3_join_11 : decode cX3_join 11 = .ok (.aload_n 1, 1) := dk_get _ da_cX3_join_0 7 _ _ _ rfl
theorem dX3_join_12 : decode cX3_join 12 = .ok (.getfield 9, 3) := dk_get _ da_cX3_join_0 8 _ _ _ rfl
theorem dX3_join_15 : decode cX3_join 15 = .ok (.iload_n 2, 1) := dk_get _ da_cX3_join_0 9 _ _ _ rfl
theorem dX3_join_16 : decode cX3_join 16 = .ok (.iaload, 1) := dk_get _ da_cX3_join_0 10 _ _ _ rfl
theorem dX3_join_17 : decode cX3_join 17 = .ok (.aload_n 1, 1) := dk_get _ da_cX3_join_0 11 _ _ _ rfl
theorem dX3_join_18 : decode cX3_join 18 = .ok (.getfield 15, 3) := dk_get _ da_cX3_join_0 12 _ _ _ rfl
theorem dX3_join_21 : decode cX3_join 21 = .ok (.iload_n 2, 1) := dk_get _ da_cX3_join_0 13 _ _ _ rfl
theorem dX3_join_22 : decode cX3_join 22 = .ok (.iaload, 1) := dk_get _ da_cX3_join_0 14 _ _ _ rfl
theorem dX3_join_23 : decode cX3_join 23 = .ok (.invokevirtual 28, 3) := dk_get _ da_cX3_join_0 15 _ _ _ rfl
theorem dX3_join_26 : decode cX3_join 26 = .ok (.iinc 2 1, 3) := dk_get _ da_cX3_join_0 16 _ _ _ rfl
theorem dX3_join_29 : decode cX3_join 29 = .ok (.goto (-27), 3) := dk_get _ da_cX3_join_0 17 _ _ _ rfl
theorem dX3_join_32 : decode cX3_join 32 = .ok (.aload_n 0, 1) := dk_get _ da_cX3_join_0 18 _ _ _ rfl
theorem dX3_join_33 : decode cX3_join 33 = .ok (.dup, 1) := dk_get _ da_cX3_join_0 19 _ _ _ rfl
theorem dX3_join_34 : decode cX3_join 34 = .ok (.getfield 22, 3) := dk_get _ da_cX3_join_0 20 _ _ _ rfl
theorem dX3_join_37 : decode cX3_join 37 = .ok (.aload_n 1, 1) := dk_get _ da_cX3_join_0 21 _ _ _ rfl
theorem dX3_join_38 : decode cX3_join 38 = .ok (.getfield 22, 3) := dk_get _ da_cX3_join_0 22 _ _ _ rfl
theorem dX3_join_41 : decode cX3_join 41 = .ok (.iadd, 1) := dk_get _ da_cX3_join_0 23 _ _ _ rfl
theorem dX3_join_42 : decode cX3_join 42 = .ok (.putfield 22, 3) := dk_get _ da_cX3_join_0 24 _ _ _ rfl
theorem dX3_join_45 : decode cX3_join 45 = .ok (.return_, 1) := dk_get _ da_cX3_join_0 25 _ _ _ rfl
set_option maxRecDepth 20000 in
theorem ggX3_cancel_X3_order : GoodIn wsX3_cancel wsX3_order := goodIn_r _ [9, 1, 10, 11, 12, 8, 13, 2, 14, 15, 16, 17, 18, 19, 20, 21, 22, 23] rfl (by decide +kernel)
set_option maxRecDepth 20000 in
theorem gX3_cancel_X3_order : GoodIn wsX3_cancel (wsV RX3 32 RX3 yX3_order wsX3_order) := goodIn_app (goodIn_r _ [5, 6, 7, 8] rfl (by decide +kernel)) ggX3_cancel_X3_order
def dt_cX3_cancel_0 : List (Nat × Instr × Nat) := [(0, .aload_n 0, 1), (1, .invokevirtual 32, 3), (4, .aload_n 0, 1), (5, .iload_n 1, 1), (6, .ifCond .lt 20, 3), (9, .iload_n 1, 1), (10, .aload_n 0, 1), (11, .getfield 18, 3), (14, .if_icmp .ge 12, 3), (17, .aload_n 0, 1), (18, .getfield 15, 3), (21, .iload_n 1, 1), (22, .iaload, 1), (23, .goto 4, 3), (26, .iconst 0, 1), (27, .putfield 25, 3), (30, .aload_n 0, 1), (31, .dup, 1), (32, .getfield 22, 3), (35, .aload_n 0, 1), (36, .getfield 25, 3), (39, .iadd, 1), (40, .putfield 22, 3), (43, .iconst 0, 1), (44, .istore_n 2, 1), (45, .iconst 0, 1), (46, .istore_n 3, 1), (47, .iload_n 3, 1), (48, .aload_n 0, 1), (49, .getfield 18, 3), (52, .if_icmp .ge 34, 3), (55, .aload_n 0, 1), (56, .getfield 15, 3), (59, .iload_n 3, 1), (60, .dup2, 1), (61, .iaload, 1), (62, .aload_n 0, 1), (63, .getfield 25, 3), (66, .isub, 1), (67, .iastore, 1), (68, .aload_n 0, 1), (69, .getfield 15, 3), (72, .iload_n 3, 1), (73, .iaload, 1), (74, .ifCond .le 6, 3), (77, .iinc 2 1, 3), (80, .iinc 3 1, 3), (83, .goto (-36), 3), (86, .aload_n 0, 1), (87, .iload_n 2, 1), (88, .putfield 18, 3), (91, .return_, 1)]
theorem da_cX3_cancel_0 : dk_all cX3_cancel dt_cX3_cancel_0 = true := by decide +kernel
theorem dX3_cancel_0 : decode cX3_cancel 0 = .ok (.aload_n 0, 1) := dk_get _ da_cX3_cancel_0 0 _ _ _ rfl
theorem dX3_cancel_1 : decode cX3_cancel 1 = .ok (.invokevirtual 32, 3) := dk_get _ da_cX3_cancel_0 1 _ _ _ rfl
theorem dX3_cancel_4 : decode cX3_cancel 4 = .ok (.aload_n 0, 1) := dk_get _ da_cX3_cancel_0 2 _ _ _ rfl
theorem dX3_cancel_5 : decode cX3_cancel 5 = .ok (.iload_n 1, 1) := dk_get _ da_cX3_cancel_0 3 _ _ _ rfl
theorem dX3_cancel_6 : decode cX3_cancel 6 = .ok (.ifCond .lt 20, 3) := dk_get _ da_cX3_cancel_0 4 _ _ _ rfl
theorem dX3_cancel_9 : decode cX3_cancel 9 = .ok (.iload_n 1, 1) := dk_get _ da_cX3_cancel_0 5 _ _ _ rfl
theorem dX3_cancel_10 : decode cX3_cancel 10 = .ok (.aload_n 0, 1) := dk_get _ da_cX3_cancel_0 6 _ _ _ rfl
theorem dX3_cancel_11 : decode cX3_cancel 11 = .ok (.getfield 18, 3) := dk_get _ da_cX3_cancel_0 7 _ _ _ rfl
theorem dX3_cancel_14 : decode cX3_cancel 14 = .ok (.if_icmp .ge 12, 3) := dk_get _ da_cX3_cancel_0 8 _ _ _ rfl
theorem dX3_cancel_17 : decode cX3_cancel 17 = .ok (.aload_n 0, 1) := dk_get _ da_cX3_cancel_0 9 _ _ _ rfl
theorem dX3_cancel_18 : decode cX3_cancel 18 = .ok (.getfield 15, 3) := dk_get _ da_cX3_cancel_0 10 _ _ _ rfl
theorem dX3_cancel_21 : decode cX3_cancel 21 = .ok (.iload_n 1, 1) := dk_get _ da_cX3_cancel_0 11 _ _ _ rfl
theorem dX3_cancel_22 : decode cX3_cancel 22 = .ok (.iaload, 1) := dk_get _ da_cX3_cancel_0 12 _ _ _ rfl
theorem dX3_cancel_23 : decode cX3_cancel 23 = .ok (.goto 4, 3) := dk_get _ da_cX3_cancel_0 13 _ _ _ rfl
theorem dX3_cancel_26 : decode cX3_cancel 26 = .ok (.iconst 0, 1) := dk_get _ da_cX3_cancel_0 14 _ _ _ rfl
theorem dX3_cancel_27 : decode cX3_cancel 27 = .ok (.putfield 25, 3) := dk_get _ da_cX3_cancel_0 15 _ _ _ rfl
theorem dX3_cancel_30 : decode cX3_cancel 30 = .ok (.aload_n 0, 1) := dk_get _ da_cX3_cancel_0 16 _ _ _ rfl
theorem dX3_cancel_31 : decode cX3_cancel 31 = .ok (.dup, 1) := dk_get _ da_cX3_cancel_0 17 _ _ _ rfl
theorem dX3_cancel_32 : decode cX3_cancel 32 = .ok (.getfield 22, 3) := dk_get _ da_cX3_cancel_0 18 _ _ _ rfl
theorem dX3_cancel_35 : decode cX3_cancel 35 = .ok (.aload_n 0, 1) := dk_get _ da_cX3_cancel_0 19 _ _ _ rfl
theorem dX3_cancel_36 : decode cX3_cancel 36 = .ok (.getfield 25, 3) := dk_get _ da_cX3_cancel_0 20 _ _ _ rfl
theorem dX3_cancel_39 : decode cX3_cancel 39 = .ok (.iadd, 1) := dk_get _ da_cX3_cancel_0 21 _ _ _ rfl
theorem dX3_cancel_40 : decode cX3_cancel 40 = .ok (.putfield 22, 3) := dk_get _ da_cX3_cancel_0 22 _ _ _ rfl
theorem dX3_cancel_43 : decode cX3_cancel 43 = .ok (.iconst 0, 1) := dk_get _ da_cX3_cancel_0 23 _ _ _ rfl
theorem dX3_cancel_44 : decode cX3_cancel 44 = .ok (.istore_n 2, 1) := dk_get _ da_cX3_cancel_0 24 _ _ _ rfl
theorem dX3_cancel_45 : decode cX3_cancel 45 = .ok (.iconst 0, 1) := dk_get _ da_cX3_cancel_0 25 _ _ _ rfl
theorem dX3_cancel_46 : decode cX3_cancel 46 = .ok (.istore_n 3, 1) := dk_get _ da_cX3_cancel_0 26 _ _ _ rfl
theorem dX3_cancel_47 : decode cX3_cancel 47 = .ok (.iload_n 3, 1) := dk_get _ da_cX3_cancel_0 27 _ _ _ rfl
theorem dX3_cancel_48 : decode cX3_cancel 48 = .ok (.aload_n 0, 1) := dk_get _ da_cX3_cancel_0 28 _ _ _ rfl
theorem dX3_cancel_49 : decode cX3_cancel 49 = .ok (.getfield 18, 3) := dk_get _ da_cX3_cancel_0 29 _ _ _ rfl
theorem dX3_cancel_52 : decode cX3_cancel 52 = .ok (.if_icmp .ge 34, 3) := dk_get _ da_cX3_cancel_0 30 _ _ _ rfl
theorem dX3_cancel_55 : decode cX3_cancel 55 = .ok (.aload_n 0, 1) := dk_get _ da_cX3_cancel_0 31 _ _ _ rfl
theorem dX3_cancel_56 : decode cX3_cancel 56 = .ok (.getfield 15, 3) := dk_get _ da_cX3_cancel_0 32 _ _ _ rfl
theorem dX3_cancel_59 : decode cX3_cancel 59 = .ok (.iload_n 3, 1) := dk_get _ da_cX3_cancel_0 33 _ _ _ rfl
theorem dX3_cancel_60 : decode cX3_cancel 60 = .ok (.dup2, 1) := dk_get _ da_cX3_cancel_0 34 _ _ _ rfl
theorem dX3_cancel_61 : decode cX3_cancel 61 = .ok (.iaload, 1) := dk_get _ da_cX3_cancel_0 35 _ _ _ rfl
theorem dX3_cancel_62 : decode cX3_cancel 62 = .ok (.aload_n 0, 1) := dk_get _ da_cX3_cancel_0 36 _ _ _ rfl
theorem dX3_cancel_63 : decode cX3_cancel 63 = .ok (.getfield 25, 3) := dk_get _ da_cX3_cancel_0 37 _ _ _ rfl
theorem dX3_cancel_66 : decode cX3_cancel 66 = .ok (.isub, 1) := dk_get _ da_cX3_cancel_0 38 _ _ _ rfl
theorem dX3_cancel_67 : decode cX3_cancel 67 = .ok (.iastore, 1) := dk_get _ da_cX3_cancel_0 39 _ _ _ rfl
theorem dX3_cancel_68 : decode cX3_cancel 68 = .ok (.aload_n 0, 1) := dk_get _ da_cX3_cancel_0 40 _ _ _ rfl
theorem dX3_cancel_69 : decode cX3_cancel 69 = .ok (.getfield 15, 3) := dk_get _ da_cX3_cancel_0 41 _ _ _ rfl
theorem dX3_cancel_72 : decode cX3_cancel 72 = .ok (.iload_n 3, 1) := dk_get _ da_cX3_cancel_0 42 _ _ _ rfl
theorem dX3_cancel_73 : decode cX3_cancel 73 = .ok (.iaload, 1) := dk_get _ da_cX3_cancel_0 43 _ _ _ rfl
theorem dX3_cancel_74 : decode cX3_cancel 74 = .ok (.ifCond .le 6, 3) := dk_get _ da_cX3_cancel_0 44 _ _ _ rfl
theorem dX3_cancel_77 : decode cX3_cancel 77 = .ok (.iinc 2 1, 3) := dk_get _ da_cX3_cancel_0 45 _ _ _ rfl
theorem dX3_cancel_80 : decode cX3_cancel 80 = .ok (.iinc 3 1, 3) := dk_get _ da_cX3_cancel_0 46 _ _ _ rfl
theorem dX3_cancel_83 : decode cX3_cancel 83 = .ok (.goto (-36), 3) := dk_get _ da_cX3_cancel_0 47 _ _ _ rfl
theorem dX3_cancel_86 : decode cX3_cancel 86 = .ok (.aload_n 0, 1) := dk_get _ da_cX3_cancel_0 48 _ _ _ rfl
theorem dX3_cancel_87 : decode cX3_cancel 87 = .ok (.iload_n 2, 1) := dk_get _ da_cX3_cancel_0 49 _ _ _ rfl
theorem dX3_cancel_88 : decode cX3_cancel 88 = .ok (.putfield 18, 3) := dk_get _ da_cX3_cancel_0 50 _ _ _ rfl
theorem dX3_cancel_91 : decode cX3_cancel 91 = .ok (.return_, 1) := dk_get _ da_cX3_cancel_0 51 _ _ _ rfl
set_option maxRecDepth 20000 in
theorem ggX3_order_X3_isAhead : GoodIn wsX3_order wsX3_isAhead := goodIn_r _ [6, 7, 8, 13, 14, 15, 16, 17] rfl (by decide +kernel)
set_option maxRecDepth 20000 in
theorem gX3_order_X3_isAhead : GoodIn wsX3_order (wsV RX3 35 RX3 yX3_isAhead wsX3_isAhead) := goodIn_app (goodIn_r _ [2, 3, 4, 5] rfl (by decide +kernel)) ggX3_order_X3_isAhead
set_option maxRecDepth 20000 in
theorem ggX3_order_X3_exchange : GoodIn wsX3_order wsX3_exchange := goodIn_r _ [12, 8, 7, 13, 14, 15, 16, 17] rfl (by decide +kernel)
set_option maxRecDepth 20000 in
theorem gX3_order_X3_exchange : GoodIn wsX3_order (wsV RX3 39 RX3 yX3_exchange wsX3_exchange) := goodIn_app (goodIn_r _ [9, 10, 11, 5] rfl (by decide +kernel)) ggX3_order_X3_exchange
def dt_cX3_order_0 : List (Nat × Instr × Nat) := [(0, .iconst 1, 1), (1, .istore_n 1, 1), (2, .iload_n 1, 1), (3, .aload_n 0, 1), (4, .getfield 18, 3), (7, .if_icmp .ge 40, 3), (10, .iload_n 1, 1), (11, .istore_n 2, 1), (12, .iload_n 2, 1), (13, .ifCond .le 28, 3), (16, .aload_n 0, 1), (17, .iload_n 2, 1), (18, .iload_n 2, 1), (19, .iconst 1, 1), (20, .isub, 1), (21, .invokevirtual 35, 3), (24, .ifCond .eq 17, 3), (27, .aload_n 0, 1), (28, .iload_n 2, 1), (29, .iload_n 2, 1), (30, .iconst 1, 1), (31, .isub, 1), (32, .invokevirtual 39, 3), (35, .iinc 2 (-1), 3), (38, .goto (-26), 3), (41, .iinc 1 1, 3), (44, .goto (-42), 3), (47, .return_, 1)]
theorem da_cX3_order_0 : dk_all cX3_order dt_cX3_order_0 = true := by decide +kernel
theorem dX3_order_0 : decode cX3_order 0 = .ok (.iconst 1, 1) := dk_get _ da_cX3_order_0 0 _ _ _ rfl
theorem dX3_order_1 : decode cX3_order 1 = .ok (.istore_n 1, 1) := dk_get _ da_cX3_order_0 1 _ _ _ rfl
theorem dX3_order_2 : decode cX3_order 2 = .ok (.iload_n 1, 1) := dk_get _ da_cX3_order_0 2 _ _ _ rfl
theorem dX3_order_3 : decode cX3_order 3 = .ok (.aload_n 0, 1) := dk_get _ da_cX3_order_0 3 _ _ _ rfl
theorem dX3_order_4 : decode cX3_order 4 = .ok (.getfield 18, 3) := dk_get _ da_cX3_order_0 4 _ _ _ rfl
theorem dX3_order_7 : decode cX3_order 7 = .ok (.if_icmp .ge 40, 3) := dk_get _ da_cX3_order_0 5 _ _ _ rfl
theorem dX3_order_10 : decode cX3_order 10 = .ok (.iload_n 1, 1) := dk_get _ da_cX3_order_0 6 _ _ _ rfl
theorem dX3_order_11 : decode cX3_order 11 = .ok (.istore_n 2, 1) := dk_get _ da_cX3_order_0 7 _ _ _ rfl
theorem dX3_order_12 : decode cX3_order 12 = .ok (.iload_n 2, 1) := dk_get _ da_cX3_order_0 8 _ _ _ rfl
theorem dX3_order_13 : decode cX3_order 13 = .ok (.ifCond .le 28, 3) := dk_get _ da_cX3_order_0 9 _ _ _ rfl
theorem dX3_order_16 : decode cX3_order 16 = .ok (.aload_n 0, 1) := dk_get _ da_cX3_order_0 10 _ _ _ rfl
theorem dX3_order_17 : decode cX3_order 17 = .ok (.iload_n 2, 1) := dk_get _ da_cX3_order_0 11 _ _ _ rfl
theorem dX3_order_18 : decode cX3_order 18 = .ok (.iload_n 2, 1) := dk_get _ da_cX3_order_0 12 _ _ _ rfl
theorem dX3_order_19 : decode cX3_order 19 = .ok (.iconst 1, 1) := dk_get _ da_cX3_order_0 13 _ _ _ rfl
theorem dX3_order_20 : decode cX3_order 20 = .ok (.isub, 1) := dk_get _ da_cX3_order_0 14 _ _ _ rfl
theorem dX3_order_21 : decode cX3_order 21 = .ok (.invokevirtual 35, 3) := dk_get _ da_cX3_order_0 15 _ _ _ rfl
theorem dX3_order_24 : decode cX3_order 24 = .ok (.ifCond .eq 17, 3) := dk_get _ da_cX3_order_0 16 _ _ _ rfl
theorem dX3_order_27 : decode cX3_order 27 = .ok (.aload_n 0, 1) := dk_get _ da_cX3_order_0 17 _ _ _ rfl
theorem dX3_order_28 : decode cX3_order 28 = .ok (.iload_n 2, 1) := dk_get _ da_cX3_order_0 18 _ _ _ rfl
theorem dX3_order_29 : decode cX3_order 29 = .ok (.iload_n 2, 1) := dk_get _ da_cX3_order_0 19 _ _ _ rfl
theorem dX3_order_30 : decode cX3_order 30 = .ok (.iconst 1, 1) := dk_get _ da_cX3_order_0 20 _ _ _ rfl
theorem dX3_order_31 : decode cX3_order 31 = .ok (.isub, 1) := dk_get _ da_cX3_order_0 21 _ _ _ rfl
theorem dX3_order_32 : decode cX3_order 32 = .ok (.invokevirtual 39, 3) := dk_get _ da_cX3_order_0 22 _ _ _ rfl
theorem dX3_order_35 : decode cX3_order 35 = .ok (.iinc 2 (-1), 3) := dk_get _ da_cX3_order_0 23 _ _ _ rfl
theorem dX3_order_38 : decode cX3_order 38 = .ok (.goto (-26), 3) := dk_get _ da_cX3_order_0 24 _ _ _ rfl
theorem dX3_order_41 : decode cX3_order 41 = .ok (.iinc 1 1, 3) := dk_get _ da_cX3_order_0 25 _ _ _ rfl
theorem dX3_order_44 : decode cX3_order 44 = .ok (.goto (-42), 3) := dk_get _ da_cX3_order_0 26 _ _ _ rfl
theorem dX3_order_47 : decode cX3_order 47 = .ok (.return_, 1) := dk_get _ da_cX3_order_0 27 _ _ _ rfl
set_option maxRecDepth 20000 in
theorem ggX3_keepHeavy_X4_isHeavy : GoodIn wsX3_keepHeavy wsX4_isHeavy := goodIn_r _ [5] rfl (by decide +kernel)
set_option maxRecDepth 20000 in
theorem ggX3_keepHeavy_X3_exchange : GoodIn wsX3_keepHeavy wsX3_exchange := goodIn_r _ [10, 11, 2, 20, 21, 22, 23, 24] rfl (by decide +kernel)
set_option maxRecDepth 20000 in
theorem gX3_keepHeavy_X3_exchange : GoodIn wsX3_keepHeavy (wsV RX3 39 RX3 yX3_exchange wsX3_exchange) := goodIn_app (goodIn_r _ [6, 7, 8, 9] rfl (by decide +kernel)) ggX3_keepHeavy_X3_exchange
set_option maxRecDepth 20000 in
theorem ggX3_keepHeavy_X3_order : GoodIn wsX3_keepHeavy wsX3_order := goodIn_r _ [15, 1, 16, 17, 18, 9, 19, 2, 11, 6, 7, 8, 10, 20, 21, 22, 23, 24] rfl (by decide +kernel)
set_option maxRecDepth 20000 in
theorem gX3_keepHeavy_X3_order : GoodIn wsX3_keepHeavy (wsV RX3 32 RX3 yX3_order wsX3_order) := goodIn_app (goodIn_r _ [12, 13, 14, 9] rfl (by decide +kernel)) ggX3_keepHeavy_X3_order
def dt_cX3_keepHeavy_0 : List (Nat × Instr × Nat) := [(0, .iconst 0, 1), (1, .istore 4, 2), (3, .iconst 0, 1), (4, .istore 5, 2), (6, .iload 5, 2), (8, .aload_n 0, 1), (9, .getfield 18, 3), (12, .if_icmp .ge 36, 3), (15, .aload_n 0, 1), (16, .getfield 15, 3), (19, .iload 5, 2), (21, .iaload, 1), (22, .iload_n 1, 1), (23, .iload_n 2, 1), (24, .iload_n 3, 1), (25, .invokestatic 42, 3), (28, .ifCond .eq 14, 3), (31, .aload_n 0, 1), (32, .iload 5, 2), (34, .iload 4, 2), (36, .invokevirtual 39, 3), (39, .iinc 4 1, 3), (42, .iinc 5 1, 3), (45, .goto (-39), 3), (48, .aload_n 0, 1), (49, .iload 4, 2), (51, .putfield 18, 3), (54, .aload_n 0, 1), (55, .invokevirtual 32, 3), (58, .return_, 1)]
theorem da_cX3_keepHeavy_0 : dk_all cX3_keepHeavy dt_cX3_keepHeavy_0 = true := by decide +kernel
theorem dX3_keepHeavy_0 : decode cX3_keepHeavy 0 = .ok (.iconst 0, 1) := dk_get _ da_cX3_keepHeavy_0 0 _ _ _ rfl
theorem dX3_keepHeavy_1 : decode cX3_keepHeavy 1 = .ok (.istore 4, 2) := dk_get _ da_cX3_keepHeavy_0 1 _ _ _ rfl
theorem dX3_keepHeavy_3 : decode cX3_keepHeavy 3 = .ok (.iconst 0, 1) := dk_get _ da_cX3_keepHeavy_0 2 _ _ _ rfl
theorem dX3_keepHeavy_4 : decode cX3_keepHeavy 4 = .ok (.istore 5, 2) := dk_get _ da_cX3_keepHeavy_0 3 _ _ _ rfl
theorem dX3_keepHeavy_6 : decode cX3_keepHeavy 6 = .ok (.iload 5, 2) := dk_get _ da_cX3_keepHeavy_0 4 _ _ _ rfl
theorem dX3_keepHeavy_8 : decode cX3_keepHeavy 8 = .ok (.aload_n 0, 1) := dk_get _ da_cX3_keepHeavy_0 5 _ _ _ rfl
theorem dX3_keepHeavy_9 : decode cX3_keepHeavy 9 = .ok (.getfield 18, 3) := dk_get _ da_cX3_keepHeavy_0 6 _ _ _ rfl
theorem dX3_keepHeavy_12 : decode cX3_keepHeavy 12 = .ok (.if_icmp .ge 36, 3) := dk_get _ da_cX3_keepHeavy_0 7 _ _ _ rfl
theorem dX3_keepHeavy_15 : decode cX3_keepHeavy 15 = .ok (.aload_n 0, 1) := dk_get _ da_cX3_keepHeavy_0 8 _ _ _ rfl
theorem dX3_keepHeavy_16 : decode cX3_keepHeavy 16 = .ok (.getfield 15, 3) := dk_get _ da_cX3_keepHeavy_0 9 _ _ _ rfl
theorem dX3_keepHeavy_19 : decode cX3_keepHeavy 19 = .ok (.iload 5, 2) := dk_get _ da_cX3_keepHeavy_0 10 _ _ _ rfl
theorem dX3_keepHeavy_21 : decode cX3_keepHeavy 21 = .ok (.iaload, 1) := dk_get _ da_cX3_keepHeavy_0 11 _ _ _ rfl
theorem dX3_keepHeavy_22 : decode cX3_keepHeavy 22 = .ok (.iload_n 1, 1) := dk_get _ da_cX3_keepHeavy_0 12 _ _ _ rfl
theorem dX3_keepHeavy_23 : decode cX3_keepHeavy 23 = .ok (.iload_n 2, 1) := dk_get _ da_cX3_keepHeavy_0 13 _ _ _ rfl
theorem dX3_keepHeavy_24 : decode cX3_keepHeavy 24 = .ok (.iload_n 3, 1) := dk_get _ da_cX3_keepHeavy_0 14 _ _ _ rfl
theorem dX3_keepHeavy_25 : decode cX3_keepHeavy 25 = .ok (.invokestatic 42, 3) := dk_get _ da_cX3_keepHeavy_0 15 _ _ _ rfl
theorem dX3_keepHeavy_28 : decode cX3_keepHeavy 28 = .ok (.ifCond .eq 14, 3) := dk_get _ da_cX3_keepHeavy_0 16 _ _ _ rfl
theorem dX3_keepHeavy_31 : decode cX3_keepHeavy 31 = .ok (.aload_n 0, 1) := dk_get _ da_cX3_keepHeavy_0 17 _ _ _ rfl
theorem dX3_keepHeavy_32 : decode cX3_keepHeavy 32 = .ok (.iload 5, 2) := dk_get _ da_cX3_keepHeavy_0 18 _ _ _ rfl
theorem dX3_keepHeavy_34 : decode cX3_keepHeavy 34 = .ok (.iload 4, 2) := dk_get _ da_cX3_keepHeavy_0 19 _ _ _ rfl
theorem dX3_keepHeavy_36 : decode cX3_keepHeavy 36 = .ok (.invokevirtual 39, 3) := dk_get _ da_cX3_keepHeavy_0 20 _ _ _ rfl
theorem dX3_keepHeavy_39 : decode cX3_keepHeavy 39 = .ok (.iinc 4 1, 3) := dk_get _ da_cX3_keepHeavy_0 21 _ _ _ rfl
theorem dX3_keepHeavy_42 : decode cX3_keepHeavy 42 = .ok (.iinc 5 1, 3) := dk_get _ da_cX3_keepHeavy_0 22 _ _ _ rfl
theorem dX3_keepHeavy_45 : decode cX3_keepHeavy 45 = .ok (.goto (-39), 3) := dk_get _ da_cX3_keepHeavy_0 23 _ _ _ rfl
theorem dX3_keepHeavy_48 : decode cX3_keepHeavy 48 = .ok (.aload_n 0, 1) := dk_get _ da_cX3_keepHeavy_0 24 _ _ _ rfl
theorem dX3_keepHeavy_49 : decode cX3_keepHeavy 49 = .ok (.iload 4, 2) := dk_get _ da_cX3_keepHeavy_0 25 _ _ _ rfl
theorem dX3_keepHeavy_51 : decode cX3_keepHeavy 51 = .ok (.putfield 18, 3) := dk_get _ da_cX3_keepHeavy_0 26 _ _ _ rfl
theorem dX3_keepHeavy_54 : decode cX3_keepHeavy 54 = .ok (.aload_n 0, 1) := dk_get _ da_cX3_keepHeavy_0 27 _ _ _ rfl
theorem dX3_keepHeavy_55 : decode cX3_keepHeavy 55 = .ok (.invokevirtual 32, 3) := dk_get _ da_cX3_keepHeavy_0 28 _ _ _ rfl
theorem dX3_keepHeavy_58 : decode cX3_keepHeavy 58 = .ok (.return_, 1) := dk_get _ da_cX3_keepHeavy_0 29 _ _ _ rfl
def dt_cX3_numberOf_0 : List (Nat × Instr × Nat) := [(0, .iconst 0, 1), (1, .istore_n 2, 1), (2, .iload_n 2, 1), (3, .aload_n 0, 1), (4, .getfield 18, 3), (7, .if_icmp .ge 26, 3), (10, .aload_n 0, 1), (11, .getfield 9, 3), (14, .iload_n 2, 1), (15, .iaload, 1), (16, .iload_n 1, 1), (17, .if_icmp .ne 10, 3), (20, .aload_n 0, 1), (21, .getfield 15, 3), (24, .iload_n 2, 1), (25, .iaload, 1), (26, .ireturn, 1), (27, .iinc 2 1, 3), (30, .goto (-28), 3), (33, .iconst 0, 1), (34, .ireturn, 1)]
theorem da_cX3_numberOf_0 : dk_all cX3_numberOf dt_cX3_numberOf_0 = true := by decide +kernel
theorem dX3_numberOf_0 : decode cX3_numberOf 0 = .ok (.iconst 0, 1) := dk_get _ da_cX3_numberOf_0 0 _ _ _ rfl
theorem dX3_numberOf_1 : decode cX3_numberOf 1 = .ok (.istore_n 2, 1) := dk_get _ da_cX3_numberOf_0 1 _ _ _ rfl
theorem dX3_numberOf_2 : decode cX3_numberOf 2 = .ok (.iload_n 2, 1) := dk_get _ da_cX3_numberOf_0 2 _ _ _ rfl
theorem dX3_numberOf_3 : decode cX3_numberOf 3 = .ok (.aload_n 0, 1) := dk_get _ da_cX3_numberOf_0 3 _ _ _ rfl
theorem dX3_numberOf_4 : decode cX3_numberOf 4 = .ok (.getfield 18, 3) := dk_get _ da_cX3_numberOf_0 4 _ _ _ rfl
theorem dX3_numberOf_7 : decode cX3_numberOf 7 = .ok (.if_icmp .ge 26, 3) := dk_get _ da_cX3_numberOf_0 5 _ _ _ rfl
theorem dX3_numberOf_10 : decode cX3_numberOf 10 = .ok (.aload_n 0, 1) := dk_get _ da_cX3_numberOf_0 6 _ _ _ rfl
theorem dX3_numberOf_11 : decode cX3_numberOf 11 = .ok (.getfield 9, 3) := dk_get _ da_cX3_numberOf_0 7 _ _ _ rfl
theorem dX3_numberOf_14 : decode cX3_numberOf 14 = .ok (.iload_n 2, 1) := dk_get _ da_cX3_numberOf_0 8 _ _ _ rfl
theorem dX3_numberOf_15 : decode cX3_numberOf 15 = .ok (.iaload, 1) := dk_get _ da_cX3_numberOf_0 9 _ _ _ rfl
theorem dX3_numberOf_16 : decode cX3_numberOf 16 = .ok (.iload_n 1, 1) := dk_get _ da_cX3_numberOf_0 10 _ _ _ rfl
theorem dX3_numberOf_17 : decode cX3_numberOf 17 = .ok (.if_icmp .ne 10, 3) := dk_get _ da_cX3_numberOf_0 11 _ _ _ rfl
theorem dX3_numberOf_20 : decode cX3_numberOf 20 = .ok (.aload_n 0, 1) := dk_get _ da_cX3_numberOf_0 12 _ _ _ rfl
theorem dX3_numberOf_21 : decode cX3_numberOf 21 = .ok (.getfield 15, 3) := dk_get _ da_cX3_numberOf_0 13 _ _ _ rfl
theorem dX3_numberOf_24 : decode cX3_numberOf 24 = .ok (.iload_n 2, 1) := dk_get _ da_cX3_numberOf_0 14 _ _ _ rfl
theorem dX3_numberOf_25 : decode cX3_numberOf 25 = .ok (.iaload, 1) := dk_get _ da_cX3_numberOf_0 15 _ _ _ rfl
theorem dX3_numberOf_26 : decode cX3_numberOf 26 = .ok (.ireturn, 1) := dk_get _ da_cX3_numberOf_0 16 _ _ _ rfl
theorem dX3_numberOf_27 : decode cX3_numberOf 27 = .ok (.iinc 2 1, 3) := dk_get _ da_cX3_numberOf_0 17 _ _ _ rfl
theorem dX3_numberOf_30 : decode cX3_numberOf 30 = .ok (.goto (-28), 3) := dk_get _ da_cX3_numberOf_0 18 _ _ _ rfl
theorem dX3_numberOf_33 : decode cX3_numberOf 33 = .ok (.iconst 0, 1) := dk_get _ da_cX3_numberOf_0 19 _ _ _ rfl
theorem dX3_numberOf_34 : decode cX3_numberOf 34 = .ok (.ireturn, 1) := dk_get _ da_cX3_numberOf_0 20 _ _ _ rfl
def dt_cX3_total_0 : List (Nat × Instr × Nat) := [(0, .iconst 0, 1), (1, .istore_n 1, 1), (2, .iconst 0, 1), (3, .istore_n 2, 1), (4, .iload_n 2, 1), (5, .aload_n 0, 1), (6, .getfield 18, 3), (9, .if_icmp .ge 18, 3), (12, .iload_n 1, 1), (13, .aload_n 0, 1), (14, .getfield 15, 3), (17, .iload_n 2, 1), (18, .iaload, 1), (19, .iadd, 1), (20, .istore_n 1, 1), (21, .iinc 2 1, 3), (24, .goto (-20), 3), (27, .iload_n 1, 1), (28, .ireturn, 1)]
theorem da_cX3_total_0 : dk_all cX3_total dt_cX3_total_0 = true := by decide +kernel
theorem dX3_total_0 : decode cX3_total 0 = .ok (.iconst 0, 1) := dk_get _ da_cX3_total_0 0 _ _ _ rfl
theorem dX3_total_1 : decode cX3_total 1 = .ok (.istore_n 1, 1) := dk_get _ da_cX3_total_0 1 _ _ _ rfl
theorem dX3_total_2 : decode cX3_total 2 = .ok (.iconst 0, 1) := dk_get _ da_cX3_total_0 2 _ _ _ rfl
theorem dX3_total_3 : decode cX3_total 3 = .ok (.istore_n 2, 1) := dk_get _ da_cX3_total_0 3 _ _ _ rfl
theorem dX3_total_4 : decode cX3_total 4 = .ok (.iload_n 2, 1) := dk_get _ da_cX3_total_0 4 _ _ _ rfl
theorem dX3_total_5 : decode cX3_total 5 = .ok (.aload_n 0, 1) := dk_get _ da_cX3_total_0 5 _ _ _ rfl
theorem dX3_total_6 : decode cX3_total 6 = .ok (.getfield 18, 3) := dk_get _ da_cX3_total_0 6 _ _ _ rfl
theorem dX3_total_9 : decode cX3_total 9 = .ok (.if_icmp .ge 18, 3) := dk_get _ da_cX3_total_0 7 _ _ _ rfl
theorem dX3_total_12 : decode cX3_total 12 = .ok (.iload_n 1, 1) := dk_get _ da_cX3_total_0 8 _ _ _ rfl
theorem dX3_total_13 : decode cX3_total 13 = .ok (.aload_n 0, 1) := dk_get _ da_cX3_total_0 9 _ _ _ rfl
theorem dX3_total_14 : decode cX3_total 14 = .ok (.getfield 15, 3) := dk_get _ da_cX3_total_0 10 _ _ _ rfl
theorem dX3_total_17 : decode cX3_total 17 = .ok (.iload_n 2, 1) := dk_get _ da_cX3_total_0 11 _ _ _ rfl
theorem dX3_total_18 : decode cX3_total 18 = .ok (.iaload, 1) := dk_get _ da_cX3_total_0 12 _ _ _ rfl
theorem dX3_total_19 : decode cX3_total 19 = .ok (.iadd, 1) := dk_get _ da_cX3_total_0 13 _ _ _ rfl
theorem dX3_total_20 : decode cX3_total 20 = .ok (.istore_n 1, 1) := dk_get _ da_cX3_total_0 14 _ _ _ rfl
theorem dX3_total_21 : decode cX3_total 21 = .ok (.iinc 2 1, 3) := dk_get _ da_cX3_total_0 15 _ _ _ rfl
theorem dX3_total_24 : decode cX3_total 24 = .ok (.goto (-20), 3) := dk_get _ da_cX3_total_0 16 _ _ _ rfl
theorem dX3_total_27 : decode cX3_total 27 = .ok (.iload_n 1, 1) := dk_get _ da_cX3_total_0 17 _ _ _ rfl
theorem dX3_total_28 : decode cX3_total 28 = .ok (.ireturn, 1) := dk_get _ da_cX3_total_0 18 _ _ _ rfl
def dt_cX3_isAhead_0 : List (Nat × Instr × Nat) := [(0, .aload_n 0, 1), (1, .getfield 15, 3), (4, .iload_n 1, 1), (5, .iaload, 1), (6, .aload_n 0, 1), (7, .getfield 15, 3), (10, .iload_n 2, 1), (11, .iaload, 1), (12, .if_icmp .gt 33, 3), (15, .aload_n 0, 1), (16, .getfield 15, 3), (19, .iload_n 1, 1), (20, .iaload, 1), (21, .aload_n 0, 1), (22, .getfield 15, 3), (25, .iload_n 2, 1), (26, .iaload, 1), (27, .if_icmp .ne 22, 3), (30, .aload_n 0, 1), (31, .getfield 9, 3), (34, .iload_n 1, 1), (35, .iaload, 1), (36, .aload_n 0, 1), (37, .getfield 9, 3), (40, .iload_n 2, 1), (41, .iaload, 1), (42, .if_icmp .ge 7, 3), (45, .iconst 1, 1), (46, .goto 4, 3), (49, .iconst 0, 1), (50, .ireturn, 1)]
theorem da_cX3_isAhead_0 : dk_all cX3_isAhead dt_cX3_isAhead_0 = true := by decide +kernel
theorem dX3_isAhead_0 : decode cX3_isAhead 0 = .ok (.aload_n 0, 1) := dk_get _ da_cX3_isAhead_0 0 _ _ _ rfl
theorem dX3_isAhead_1 : decode cX3_isAhead 1 = .ok (.getfield 15, 3) := dk_get _ da_cX3_isAhead_0 1 _ _ _ rfl
theorem dX3_isAhead_4 : decode cX3_isAhead 4 = .ok (.iload_n 1, 1) := dk_get _ da_cX3_isAhead_0 2 _ _ _ rfl
theorem dX3_isAhead_5 : decode cX3_isAhead 5 = .ok (.iaload, 1) := dk_get _ da_cX3_isAhead_0 3 _ _ _ rfl
theorem dX3_isAhead_6 : decode cX3_isAhead 6 = .ok (.aload_n 0, 1) := dk_get _ da_cX3_isAhead_0 4 _ _ _ rfl
theorem dX3_isAhead_7 : decode cX3_isAhead 7 = .ok (.getfield 15, 3) := dk_get _ da_cX3_isAhead_0 5 _ _ _ rfl
theorem dX3_isAhead_10 : decode cX3_isAhead 10 = .ok (.iload_n 2, 1) := dk_get _ da_cX3_isAhead_0 6 _ _ _ rfl
theorem dX3_isAhead_11 : decode cX3_isAhead 11 = .ok (.iaload, 1) := dk_get _ da_cX3_isAhead_0 7 _ _ _ rfl
theorem dX3_isAhead_12 : decode cX3_isAhead 12 = .ok (.if_icmp .gt 33, 3) := dk_get _ da_cX3_isAhead_0 8 _ _ _ rfl
theorem dX3_isAhead_15 : decode cX3_isAhead 15 = .ok (.aload_n 0, 1) := dk_get _ da_cX3_isAhead_0 9 _ _ _ rfl
theorem dX3_isAhead_16 : decode cX3_isAhead 16 = .ok (.getfield 15, 3) := dk_get _ da_cX3_isAhead_0 10 _ _ _ rfl
theorem dX3_isAhead_19 : decode cX3_isAhead 19 = .ok (.iload_n 1, 1) := dk_get _ da_cX3_isAhead_0 11 _ _ _ rfl
theorem dX3_isAhead_20 : decode cX3_isAhead 20 = .ok (.iaload, 1) := dk_get _ da_cX3_isAhead_0 12 _ _ _ rfl
theorem dX3_isAhead_21 : decode cX3_isAhead 21 = .ok (.aload_n 0, 1) := dk_get _ da_cX3_isAhead_0 13 _ _ _ rfl
theorem dX3_isAhead_22 : decode cX3_isAhead 22 = .ok (.getfield 15, 3) := dk_get _ da_cX3_isAhead_0 14 _ _ _ rfl
theorem dX3_isAhead_25 : decode cX3_isAhead 25 = .ok (.iload_n 2, 1) := dk_get _ da_cX3_isAhead_0 15 _ _ _ rfl
theorem dX3_isAhead_26 : decode cX3_isAhead 26 = .ok (.iaload, 1) := dk_get _ da_cX3_isAhead_0 16 _ _ _ rfl
theorem dX3_isAhead_27 : decode cX3_isAhead 27 = .ok (.if_icmp .ne 22, 3) := dk_get _ da_cX3_isAhead_0 17 _ _ _ rfl
theorem dX3_isAhead_30 : decode cX3_isAhead 30 = .ok (.aload_n 0, 1) := dk_get _ da_cX3_isAhead_0 18 _ _ _ rfl
theorem dX3_isAhead_31 : decode cX3_isAhead 31 = .ok (.getfield 9, 3) := dk_get _ da_cX3_isAhead_0 19 _ _ _ rfl
theorem dX3_isAhead_34 : decode cX3_isAhead 34 = .ok (.iload_n 1, 1) := dk_get _ da_cX3_isAhead_0 20 _ _ _ rfl
theorem dX3_isAhead_35 : decode cX3_isAhead 35 = .ok (.iaload, 1) := dk_get _ da_cX3_isAhead_0 21 _ _ _ rfl
theorem dX3_isAhead_36 : decode cX3_isAhead 36 = .ok (.aload_n 0, 1) := dk_get _ da_cX3_isAhead_0 22 _ _ _ rfl
theorem dX3_isAhead_37 : decode cX3_isAhead 37 = .ok (.getfield 9, 3) := dk_get _ da_cX3_isAhead_0 23 _ _ _ rfl
theorem dX3_isAhead_40 : decode cX3_isAhead 40 = .ok (.iload_n 2, 1) := dk_get _ da_cX3_isAhead_0 24 _ _ _ rfl
theorem dX3_isAhead_41 : decode cX3_isAhead 41 = .ok (.iaload, 1) := dk_get _ da_cX3_isAhead_0 25 _ _ _ rfl
theorem dX3_isAhead_42 : decode cX3_isAhead 42 = .ok (.if_icmp .ge 7, 3) := dk_get _ da_cX3_isAhead_0 26 _ _ _ rfl
theorem dX3_isAhead_45 : decode cX3_isAhead 45 = .ok (.iconst 1, 1) := dk_get _ da_cX3_isAhead_0 27 _ _ _ rfl
theorem dX3_isAhead_46 : decode cX3_isAhead 46 = .ok (.goto 4, 3) := dk_get _ da_cX3_isAhead_0 28 _ _ _ rfl
theorem dX3_isAhead_49 : decode cX3_isAhead 49 = .ok (.iconst 0, 1) := dk_get _ da_cX3_isAhead_0 29 _ _ _ rfl
theorem dX3_isAhead_50 : decode cX3_isAhead 50 = .ok (.ireturn, 1) := dk_get _ da_cX3_isAhead_0 30 _ _ _ rfl
def dt_cX3_exchange_0 : List (Nat × Instr × Nat) := [(0, .aload_n 0, 1), (1, .getfield 9, 3), (4, .iload_n 1, 1), (5, .iaload, 1), (6, .istore_n 3, 1), (7, .aload_n 0, 1), (8, .getfield 15, 3), (11, .iload_n 1, 1), (12, .iaload, 1), (13, .istore 4, 2), (15, .aload_n 0, 1), (16, .getfield 9, 3), (19, .iload_n 1, 1), (20, .aload_n 0, 1), (21, .getfield 9, 3), (24, .iload_n 2, 1), (25, .iaload, 1), (26, .iastore, 1), (27, .aload_n 0, 1), (28, .getfield 15, 3), (31, .iload_n 1, 1), (32, .aload_n 0, 1), (33, .getfield 15, 3), (36, .iload_n 2, 1), (37, .iaload, 1), (38, .iastore, 1), (39, .aload_n 0, 1), (40, .getfield 9, 3), (43, .iload_n 2, 1), (44, .iload_n 3, 1), (45, .iastore, 1), (46, .aload_n 0, 1), (47, .getfield 15, 3), (50, .iload_n 2, 1), (51, .iload 4, 2), (53, .iastore, 1), (54, .return_, 1)]
theorem da_cX3_exchange_0 : dk_all cX3_exchange dt_cX3_exchange_0 = true := by decide +kernel
theorem dX3_exchange_0 : decode cX3_exchange 0 = .ok (.aload_n 0, 1) := dk_get _ da_cX3_exchange_0 0 _ _ _ rfl
theorem dX3_exchange_1 : decode cX3_exchange 1 = .ok (.getfield 9, 3) := dk_get _ da_cX3_exchange_0 1 _ _ _ rfl
theorem dX3_exchange_4 : decode cX3_exchange 4 = .ok (.iload_n 1, 1) := dk_get _ da_cX3_exchange_0 2 _ _ _ rfl
theorem dX3_exchange_5 : decode cX3_exchange 5 = .ok (.iaload, 1) := dk_get _ da_cX3_exchange_0 3 _ _ _ rfl
theorem dX3_exchange_6 : decode cX3_exchange 6 = .ok (.istore_n 3, 1) := dk_get _ da_cX3_exchange_0 4 _ _ _ rfl
theorem dX3_exchange_7 : decode cX3_exchange 7 = .ok (.aload_n 0, 1) := dk_get _ da_cX3_exchange_0 5 _ _ _ rfl
theorem dX3_exchange_8 : decode cX3_exchange 8 = .ok (.getfield 15, 3) := dk_get _ da_cX3_exchange_0 6 _ _ _ rfl
theorem dX3_exchange_11 : decode cX3_exchange 11 = .ok (.iload_n 1, 1) := dk_get _ da_cX3_exchange_0 7 _ _ _ rfl
theorem dX3_exchange_12 : decode cX3_exchange 12 = .ok (.iaload, 1) := dk_get _ da_cX3_exchange_0 8 _ _ _ rfl
theorem dX3_exchange_13 : decode cX3_exchange 13 = .ok (.istore 4, 2) := dk_get _ da_cX3_exchange_0 9 _ _ _ rfl
theorem dX3_exchange_15 : decode cX3_exchange 15 = .ok (.aload_n 0, 1) := dk_get _ da_cX3_exchange_0 10 _ _ _ rfl
theorem dX3_exchange_16 : decode cX3_exchange 16 = .ok (.getfield 9, 3) := dk_get _ da_cX3_exchange_0 11 _ _ _ rfl
theorem dX3_exchange_19 : decode cX3_exchange 19 = .ok (.iload_n 1, 1) := dk_get _ da_cX3_exchange_0 12 _ _ _ rfl
theorem dX3_exchange_20 : decode cX3_exchange 20 = .ok (.aload_n 0, 1) := dk_get _ da_cX3_exchange_0 13 _ _ _ rfl
theorem dX3_exchange_21 : decode cX3_exchange 21 = .ok (.getfield 9, 3) := dk_get _ da_cX3_exchange_0 14 _ _ _ rfl
theorem dX3_exchange_24 : decode cX3_exchange 24 = .ok (.iload_n 2, 1) := dk_get _ da_cX3_exchange_0 15 _ _ _ rfl
theorem dX3_exchange_25 : decode cX3_exchange 25 = .ok (.iaload, 1) := dk_get _ da_cX3_exchange_0 16 _ _ _ rfl
theorem dX3_exchange_26 : decode cX3_exchange 26 = .ok (.iastore, 1) := dk_get _ da_cX3_exchange_0 17 _ _ _ rfl
theorem dX3_exchange_27 : decode cX3_exchange 27 = .ok (.aload_n 0, 1) := dk_get _ da_cX3_exchange_0 18 _ _ _ rfl
theorem dX3_exchange_28 : decode cX3_exchange 28 = .ok (.getfield 15, 3) := dk_get _ da_cX3_exchange_0 19 _ _ _ rfl
theorem dX3_exchange_31 : decode cX3_exchange 31 = .ok (.iload_n 1, 1) := dk_get _ da_cX3_exchange_0 20 _ _ _ rfl
theorem dX3_exchange_32 : decode cX3_exchange 32 = .ok (.aload_n 0, 1) := dk_get _ da_cX3_exchange_0 21 _ _ _ rfl
theorem dX3_exchange_33 : decode cX3_exchange 33 = .ok (.getfield 15, 3) := dk_get _ da_cX3_exchange_0 22 _ _ _ rfl
theorem dX3_exchange_36 : decode cX3_exchange 36 = .ok (.iload_n 2, 1) := dk_get _ da_cX3_exchange_0 23 _ _ _ rfl
theorem dX3_exchange_37 : decode cX3_exchange 37 = .ok (.iaload, 1) := dk_get _ da_cX3_exchange_0 24 _ _ _ rfl
theorem dX3_exchange_38 : decode cX3_exchange 38 = .ok (.iastore, 1) := dk_get _ da_cX3_exchange_0 25 _ _ _ rfl
theorem dX3_exchange_39 : decode cX3_exchange 39 = .ok (.aload_n 0, 1) := dk_get _ da_cX3_exchange_0 26 _ _ _ rfl
theorem dX3_exchange_40 : decode cX3_exchange 40 = .ok (.getfield 9, 3) := dk_get _ da_cX3_exchange_0 27 _ _ _ rfl
theorem dX3_exchange_43 : decode cX3_exchange 43 = .ok (.iload_n 2, 1) := dk_get _ da_cX3_exchange_0 28 _ _ _ rfl
theorem dX3_exchange_44 : decode cX3_exchange 44 = .ok (.iload_n 3, 1) := dk_get _ da_cX3_exchange_0 29 _ _ _ rfl
theorem dX3_exchange_45 : decode cX3_exchange 45 = .ok (.iastore, 1) := dk_get _ da_cX3_exchange_0 30 _ _ _ rfl
theorem dX3_exchange_46 : decode cX3_exchange 46 = .ok (.aload_n 0, 1) := dk_get _ da_cX3_exchange_0 31 _ _ _ rfl
theorem dX3_exchange_47 : decode cX3_exchange 47 = .ok (.getfield 15, 3) := dk_get _ da_cX3_exchange_0 32 _ _ _ rfl
theorem dX3_exchange_50 : decode cX3_exchange 50 = .ok (.iload_n 2, 1) := dk_get _ da_cX3_exchange_0 33 _ _ _ rfl
theorem dX3_exchange_51 : decode cX3_exchange 51 = .ok (.iload 4, 2) := dk_get _ da_cX3_exchange_0 34 _ _ _ rfl
theorem dX3_exchange_53 : decode cX3_exchange 53 = .ok (.iastore, 1) := dk_get _ da_cX3_exchange_0 35 _ _ _ rfl
theorem dX3_exchange_54 : decode cX3_exchange 54 = .ok (.return_, 1) := dk_get _ da_cX3_exchange_0 36 _ _ _ rfl
def dt_cX4_isHeavy_0 : List (Nat × Instr × Nat) := [(0, .iload_n 0, 1), (1, .iload_n 3, 1), (2, .imul, 1), (3, .iload_n 2, 1), (4, .iload_n 1, 1), (5, .imul, 1), (6, .if_icmp .le 7, 3), (9, .iconst 1, 1), (10, .goto 4, 3), (13, .iconst 0, 1), (14, .ireturn, 1)]
theorem da_cX4_isHeavy_0 : dk_all cX4_isHeavy dt_cX4_isHeavy_0 = true := by decide +kernel
theorem dX4_isHeavy_0 : decode cX4_isHeavy 0 = .ok (.iload_n 0, 1) := dk_get _ da_cX4_isHeavy_0 0 _ _ _ rfl
theorem dX4_isHeavy_1 : decode cX4_isHeavy 1 = .ok (.iload_n 3, 1) := dk_get _ da_cX4_isHeavy_0 1 _ _ _ rfl
theorem dX4_isHeavy_2 : decode cX4_isHeavy 2 = .ok (.imul, 1) := dk_get _ da_cX4_isHeavy_0 2 _ _ _ rfl
theorem dX4_isHeavy_3 : decode cX4_isHeavy 3 = .ok (.iload_n 2, 1) := dk_get _ da_cX4_isHeavy_0 3 _ _ _ rfl
theorem dX4_isHeavy_4 : decode cX4_isHeavy 4 = .ok (.iload_n 1, 1) := dk_get _ da_cX4_isHeavy_0 4 _ _ _ rfl
theorem dX4_isHeavy_5 : decode cX4_isHeavy 5 = .ok (.imul, 1) := dk_get _ da_cX4_isHeavy_0 5 _ _ _ rfl
theorem dX4_isHeavy_6 : decode cX4_isHeavy 6 = .ok (.if_icmp .le 7, 3) := dk_get _ da_cX4_isHeavy_0 6 _ _ _ rfl
theorem dX4_isHeavy_9 : decode cX4_isHeavy 9 = .ok (.iconst 1, 1) := dk_get _ da_cX4_isHeavy_0 7 _ _ _ rfl
theorem dX4_isHeavy_10 : decode cX4_isHeavy 10 = .ok (.goto 4, 3) := dk_get _ da_cX4_isHeavy_0 8 _ _ _ rfl
theorem dX4_isHeavy_13 : decode cX4_isHeavy 13 = .ok (.iconst 0, 1) := dk_get _ da_cX4_isHeavy_0 9 _ _ _ rfl
theorem dX4_isHeavy_14 : decode cX4_isHeavy 14 = .ok (.ireturn, 1) := dk_get _ da_cX4_isHeavy_0 10 _ _ _ rfl

