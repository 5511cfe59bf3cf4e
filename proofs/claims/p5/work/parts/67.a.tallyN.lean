abbrev wsX10 : List Cond := u_ws RX1 TX1 4
theorem nmX1 : ∀ a, a < 4 → ∀ b, b < 4 → a ≠ b → (TX1 a).2.1 ≠ (TX1 b).2.1 := by decide +kernel
theorem tyX1_ok : ∀ k, k < 4 → parseFieldDescriptor (TX1 k).2.2.1 = some (tyX1 k) := by decide +kernel
abbrev cX1_learn : ByteArray := prog_3_method_2_code
def yX1_learn : MethodName := ⟨RX1, "learn", "(LMajorityIndex$Row;)V"⟩
abbrev cX1_clear : ByteArray := prog_3_method_3_code
def yX1_clear : MethodName := ⟨RX1, "clear", "()V"⟩
abbrev cX1_take : ByteArray := prog_3_method_4_code
def yX1_take : MethodName := ⟨RX1, "take", "(I)V"⟩
abbrev cX1_drop : ByteArray := prog_3_method_5_code
def yX1_drop : MethodName := ⟨RX1, "drop", "(I)V"⟩
abbrev cX1_hasMajority : ByteArray := prog_3_method_6_code
def yX1_hasMajority : MethodName := ⟨RX1, "hasMajority", "()Z"⟩
def RJ7 : String := "java/util/Arrays"
abbrev cJ7_fill_53178 : ByteArray := prog_13_method_103_code
def yJ7_fill_53178 : MethodName := ⟨RJ7, "fill", "([II)V"⟩
def wsX1_learn : List Cond := .code yX1_learn cX1_learn 3 none :: ([.fieldLink RX1 18 "MajorityIndex$Row" "length" "I", .fieldLink RX1 9 "MajorityIndex$Tally" "kind" "[I", .methodLink RX1 24 yX0_firstLike, .instanceMethod yX0_firstLike, .selects RX0 yX0_firstLike yX0_firstLike, .initialized RX0, .code yX0_firstLike cX0_firstLike 3 (some .int), .fieldLink RX0 9 "MajorityIndex$Row" "cell" "[I"] ++ wsX00 ++ wsX10)
def wsJ7_fill_53178 : List Cond := .code yJ7_fill_53178 cJ7_fill_53178 4 none :: ([])
def wsX1_clear : List Cond := .code yX1_clear cX1_clear 1 none :: ([.fieldLink RX1 15 "MajorityIndex$Tally" "often" "[I", .fieldLink RX1 34 "MajorityIndex$Tally" "taken" "I", .fieldLink RX1 37 "MajorityIndex$Tally" "most" "I", .methodLink RX1 28 yJ7_fill_53178, .static yJ7_fill_53178, .initialized RJ7, .code yJ7_fill_53178 cJ7_fill_53178 4 none] ++ wsX10)
def wsX1_take : List Cond := .code yX1_take cX1_take 3 none :: ([.fieldLink RX1 15 "MajorityIndex$Tally" "often" "[I", .fieldLink RX1 9 "MajorityIndex$Tally" "kind" "[I", .fieldLink RX1 34 "MajorityIndex$Tally" "taken" "I", .fieldLink RX1 37 "MajorityIndex$Tally" "most" "I"] ++ wsX10)
def wsX1_drop : List Cond := .code yX1_drop cX1_drop 2 none :: ([.fieldLink RX1 15 "MajorityIndex$Tally" "often" "[I", .fieldLink RX1 9 "MajorityIndex$Tally" "kind" "[I", .fieldLink RX1 34 "MajorityIndex$Tally" "taken" "I"] ++ wsX10)
def wsX1_hasMajority : List Cond := .code yX1_hasMajority cX1_hasMajority 1 (some .boolean) :: ([.fieldLink RX1 37 "MajorityIndex$Tally" "most" "I", .fieldLink RX1 34 "MajorityIndex$Tally" "taken" "I"] ++ wsX10)
set_option maxRecDepth 20000 in
theorem ggX1_learn_X0_firstLike : GoodIn wsX1_learn wsX0_firstLike := goodIn_r _ [7, 8, 9, 10] rfl (by decide +kernel)
set_option maxRecDepth 20000 in
theorem gX1_learn_X0_firstLike : GoodIn wsX1_learn (wsV RX1 24 RX0 yX0_firstLike wsX0_firstLike) := goodIn_app (goodIn_r _ [3, 4, 5, 6] rfl (by decide +kernel)) ggX1_learn_X0_firstLike
def dt_cX1_learn_0 : List (Nat × Instr × Nat) := [(0, .iconst 0, 1), (1, .istore_n 2, 1), (2, .iload_n 2, 1), (3, .aload_n 1, 1), (4, .getfield 18, 3), (7, .if_icmp .ge 20, 3), (10, .aload_n 0, 1), (11, .getfield 9, 3), (14, .iload_n 2, 1), (15, .aload_n 1, 1), (16, .iload_n 2, 1), (17, .invokevirtual 24, 3), (20, .iastore, 1), (21, .iinc 2 1, 3), (24, .goto (-22), 3), (27, .return_, 1)]
theorem da_cX1_learn_0 : dk_all cX1_learn dt_cX1_learn_0 = true := by decide +kernel
theorem dX1_learn_0 : decode cX1_learn 0 = .ok (.iconst 0, 1) := dk_get _ da_cX1_learn_0 0 _ _ _ rfl
theorem dX1_learn_1 : decode cX1_learn 1 = .ok (.istore_n 2, 1) := dk_get _ da_cX1_learn_0 1 _ _ _ rfl
theorem dX1_learn_2 : decode cX1_learn 2 = .ok (.iload_n 2, 1) := dk_get _ da_cX1_learn_0 2 _ _ _ rfl
theorem dX1_learn_3 : decode cX1_learn 3 = .ok (.aload_n 1, 1) := dk_get _ da_cX1_learn_0 3 _ _ _ rfl
theorem dX1_learn_4 : decode cX1_learn 4 = .ok (.getfield 18, 3) := dk_get _ da_cX1_learn_0 4 _ _ _ rfl
theorem dX1_learn_7 : decode cX1_learn 7 = .ok (.if_icmp .ge 20, 3) := dk_get _ da_cX1_learn_0 5 _ _ _ rfl
theorem dX1_learn_10 : decode cX1_learn 10 = .ok (.aload_n 0, 1) := dk_get _ da_cX1_learn_0 6 _ _ _ rfl
theorem dX1_learn_11 : decode cX1_learn 11 = .ok (.getfield 9, 3) := dk_get _ da_cX1_learn_0 7 _ _ _ rfl
theorem dX1_learn_14 : decode cX1_learn 14 = .ok (.iload_n 2, 1) := dk_get _ da_cX1_learn_0 8 _ _ _ rfl
theorem dX1_learn_15 : decode cX1_learn 15 = .ok (.aload_n 1, 1) := dk_get _ da_cX1_learn_0 9 _ _ _ rfl
theorem dX1_learn_16 : decode cX1_learn 16 = .ok (.iload_n 2, 1) := dk_get _ da_cX1_learn_0 10 _ _ _ rfl
theorem dX1_learn_17 : decode cX1_learn 17 = .ok (.invokevirtual 24, 3) := dk_get _ da_cX1_learn_0 11 _ _ _ rfl
theorem dX1_learn_20 : decode cX1_learn 20 = .ok (.iastore, 1) := dk_get _ da_cX1_learn_0 12 _ _ _ rfl
theorem dX1_learn_21 : decode cX1_learn 21 = .ok (.iinc 2 1, 3) := dk_get _ da_cX1_learn_0 13 _ _ _ rfl
theorem dX1_learn_24 : decode cX1_learn 24 = .ok (.goto (-22), 3) := dk_get _ da_cX1_learn_0 14 _ _ _ rfl
theorem dX1_learn_27 : decode cX1_learn 27 = .ok (.return_, 1) := dk_get _ da_cX1_learn_0 15 _ _ _ rfl
set_option maxRecDepth 20000 in
theorem ggX1_clear_J7_fill_53178 : GoodIn wsX1_clear wsJ7_fill_53178 := goodIn_r _ [7] rfl (by decide +kernel)
set_option maxRecDepth 20000 in
theorem gX1_clear_J7_fill_53178 : GoodIn wsX1_clear (va_wsS RX1 28 yJ7_fill_53178 wsJ7_fill_53178) := goodIn_app (goodIn_r _ [4, 5, 6] rfl (by decide +kernel)) ggX1_clear_J7_fill_53178
def dt_cX1_clear_0 : List (Nat × Instr × Nat) := [(0, .aload_n 0, 1), (1, .getfield 15, 3), (4, .iconst 0, 1), (5, .invokestatic 28, 3), (8, .aload_n 0, 1), (9, .iconst 0, 1), (10, .putfield 34, 3), (13, .aload_n 0, 1), (14, .iconst 0, 1), (15, .putfield 37, 3), (18, .return_, 1)]
theorem da_cX1_clear_0 : dk_all cX1_clear dt_cX1_clear_0 = true := by decide +kernel
theorem dX1_clear_0 : decode cX1_clear 0 = .ok (.aload_n 0, 1) := dk_get _ da_cX1_clear_0 0 _ _ _ rfl
theorem dX1_clear_1 : decode cX1_clear 1 = .ok (.getfield 15, 3) := dk_get _ da_cX1_clear_0 1 _ _ _ rfl
theorem dX1_clear_4 : decode cX1_clear 4 = .ok (.iconst 0, 1) := dk_get _ da_cX1_clear_0 2 _ _ _ rfl
theorem dX1_clear_5 : decode cX1_clear 5 = .ok (.invokestatic 28, 3) := dk_get _ da_cX1_clear_0 3 _ _ _ rfl
theorem dX1_clear_8 : decode cX1_clear 8 = .ok (.aload_n 0, 1) := dk_get _ da_cX1_clear_0 4 _ _ _ rfl
theorem dX1_clear_9 : decode cX1_clear 9 = .ok (.iconst 0, 1) := dk_get _ da_cX1_clear_0 5 _ _ _ rfl
theorem dX1_clear_10 : decode cX1_clear 10 = .ok (.putfield 34, 3) := dk_get _ da_cX1_clear_0 6 _ _ _ rfl
theorem dX1_clear_13 : decode cX1_clear 13 = .ok (.aload_n 0, 1) := dk_get _ da_cX1_clear_0 7 _ _ _ rfl
theorem dX1_clear_14 : decode cX1_clear 14 = .ok (.iconst 0, 1) := dk_get _ da_cX1_clear_0 8 _ _ _ rfl
theorem dX1_clear_15 : decode cX1_clear 15 = .ok (.putfield 37, 3) := dk_get _ da_cX1_clear_0 9 _ _ _ rfl
theorem dX1_clear_18 : decode cX1_clear 18 = .ok (.return_, 1) := dk_get _ da_cX1_clear_0 10 _ _ _ rfl
def dt_cX1_take_0 : List (Nat × Instr × Nat) := [(0, .aload_n 0, 1), (1, .getfield 15, 3), (4, .aload_n 0, 1), (5, .getfield 9, 3), (8, .iload_n 1, 1), (9, .iaload, 1), (10, .iaload, 1), (11, .iconst 1, 1), (12, .iadd, 1), (13, .istore_n 2, 1), (14, .aload_n 0, 1), (15, .getfield 15, 3), (18, .aload_n 0, 1), (19, .getfield 9, 3), (22, .iload_n 1, 1), (23, .iaload, 1), (24, .iload_n 2, 1), (25, .iastore, 1), (26, .aload_n 0, 1), (27, .dup, 1), (28, .getfield 34, 3), (31, .iconst 1, 1), (32, .iadd, 1), (33, .putfield 34, 3), (36, .iload_n 2, 1), (37, .aload_n 0, 1), (38, .getfield 37, 3), (41, .if_icmp .le 8, 3), (44, .aload_n 0, 1), (45, .iload_n 2, 1), (46, .putfield 37, 3), (49, .return_, 1)]
theorem da_cX1_take_0 : dk_all cX1_take dt_cX1_take_0 = true := by decide +kernel
theorem dX1_take_0 : decode cX1_take 0 = .ok (.aload_n 0, 1) := dk_get _ da_cX1_take_0 0 _ _ _ rfl
theorem dX1_take_1 : decode cX1_take 1 = .ok (.getfield 15, 3) := dk_get _ da_cX1_take_0 1 _ _ _ rfl
theorem dX1_take_4 : decode cX1_take 4 = .ok (.aload_n 0, 1) := dk_get _ da_cX1_take_0 2 _ _ _ rfl
theorem dX1_take_5 : decode cX1_take 5 = .ok (.getfield 9, 3) := dk_get _ da_cX1_take_0 3 _ _ _ rfl
theorem dX1_take_8 : decode cX1_take 8 = .ok (.iload_n 1, 1) := dk_get _ da_cX1_take_0 4 _ _ _ rfl
theorem dX1_take_9 : decode cX1_take 9 = .ok (.iaload, 1) := dk_get _ da_cX1_take_0 5 _ _ _ rfl
theorem dX1_take_10 : decode cX1_take 10 = .ok (.iaload, 1) := dk_get _ da_cX1_take_0 6 _ _ _ rfl
theorem dX1_take_11 : decode cX1_take 11 = .ok (.iconst 1, 1) := dk_get _ da_cX1_take_0 7 _ _ _ rfl
theorem dX1_take_12 : decode cX1_take 12 = .ok (.iadd, 1) := dk_get _ da_cX1_take_0 8 _ _ _ rfl
theorem dX1_take_13 : decode cX1_take 13 = .ok (.istore_n 2, 1) := dk_get _ da_cX1_take_0 9 _ _ _ rfl
theorem dX1_take_14 : decode cX1_take 14 = .ok (.aload_n 0, 1) := dk_get _ da_cX1_take_0 10 _ _ _ rfl
theorem dX1_take_15 : decode cX1_take 15 = .ok (.getfield 15, 3) := dk_get _ da_cX1_take_0 11 _ _ _ rfl
theorem dX1_take_18 : decode cX1_take 18 = .ok (.aload_n 0, 1) := dk_get _ da_cX1_take_0 12 _ _ _ rfl
theorem dX1_take_19 : decode cX1_take 19 = .ok (.getfield 9, 3) := dk_get _ da_cX1_take_0 13 _ _ _ rfl
theorem dX1_take_22 : decode cX1_take 22 = .ok (.iload_n 1, 1) := dk_get _ da_cX1_take_0 14 _ _ _ rfl
theorem dX1_take_23 : decode cX1_take 23 = .ok (.iaload, 1) := dk_get _ da_cX1_take_0 15 _ _ _ rfl
theorem dX1_take_24 : decode cX1_take 24 = .ok (.iload_n 2, 1) := dk_get _ da_cX1_take_0 16 _ _ _ rfl
theorem dX1_take_25 : decode cX1_take 25 = .ok (.iastore, 1) := dk_get _ da_cX1_take_0 17 _ _ _ rfl
theorem dX1_take_26 : decode cX1_take 26 = .ok (.aload_n 0, 1) := dk_get _ da_cX1_take_0 18 _ _ _ rfl
theorem dX1_take_27 : decode cX1_take 27 = .ok (.dup, 1) := dk_get _ da_cX1_take_0 19 _ _ _ rfl
theorem dX1_take_28 : decode cX1_take 28 = .ok (.getfield 34, 3) := dk_get _ da_cX1_take_0 20 _ _ _ rfl
theorem dX1_take_31 : decode cX1_take 31 = .ok (.iconst 1, 1) := dk_get _ da_cX1_take_0 21 _ _ _ rfl
theorem dX1_take_32 : decode cX1_take 32 = .ok (.iadd, 1) := dk_get _ da_cX1_take_0 22 _ _ _ rfl
theorem dX1_take_33 : decode cX1_take 33 = .ok (.putfield 34, 3) := dk_get _ da_cX1_take_0 23 _ _ _ rfl
theorem dX1_take_36 : decode cX1_take 36 = .ok (.iload_n 2, 1) := dk_get _ da_cX1_take_0 24 _ _ _ rfl
theorem dX1_take_37 : decode cX1_take 37 = .ok (.aload_n 0, 1) := dk_get _ da_cX1_take_0 25 _ _ _ rfl
theorem dX1_take_38 : decode cX1_take 38 = .ok (.getfield 37, 3) := dk_get _ da_cX1_take_0 26 _ _ _ rfl
theorem dX1_take_41 : decode cX1_take 41 = .ok (.if_icmp .le 8, 3) := dk_get _ da_cX1_take_0 27 _ _ _ rfl
theorem dX1_take_44 : decode cX1_take 44 = .ok (.aload_n 0, 1) := dk_get _ da_cX1_take_0 28 _ _ _ rfl
theorem dX1_take_45 : decode cX1_take 45 = .ok (.iload_n 2, 1) := dk_get _ da_cX1_take_0 29 _ _ _ rfl
theorem dX1_take_46 : decode cX1_take 46 = .ok (.putfield 37, 3) := dk_get _ da_cX1_take_0 30 _ _ _ rfl
theorem dX1_take_49 : decode cX1_take 49 = .ok (.return_, 1) := dk_get _ da_cX1_take_0 31 _ _ _ rfl
def dt_cX1_drop_0 : List (Nat × Instr × Nat) := [(0, .aload_n 0, 1), (1, .getfield 15, 3), (4, .aload_n 0, 1), (5, .getfield 9, 3), (8, .iload_n 1, 1), (9, .iaload, 1), (10, .dup2, 1), (11, .iaload, 1), (12, .iconst 1, 1), (13, .isub, 1), (14, .iastore, 1), (15, .aload_n 0, 1), (16, .dup, 1), (17, .getfield 34, 3), (20, .iconst 1, 1), (21, .isub, 1), (22, .putfield 34, 3), (25, .return_, 1)]
theorem da_cX1_drop_0 : dk_all cX1_drop dt_cX1_drop_0 = true := by decide +kernel
theorem dX1_drop_0 : decode cX1_drop 0 = .ok (.aload_n 0, 1) := dk_get _ da_cX1_drop_0 0 _ _ _ rfl
theorem dX1_drop_1 : decode cX1_drop 1 = .ok (.getfield 15, 3) := dk_get _ da_cX1_drop_0 1 _ _ _ rfl
theorem dX1_drop_4 : decode cX1_drop 4 = .ok (.aload_n 0, 1) := dk_get _ da_cX1_drop_0 2 _ _ _ rfl
theorem dX1_drop_5 : decode cX1_drop 5 = .ok (.getfield 9, 3) := dk_get _ da_cX1_drop_0 3 _ _ _ rfl
theorem dX1_drop_8 : decode cX1_drop 8 = .ok (.iload_n 1, 1) := dk_get _ da_cX1_drop_0 4 _ _ _ rfl
theorem dX1_drop_9 : decode cX1_drop 9 = .ok (.iaload, 1) := dk_get _ da_cX1_drop_0 5 _ _ _ rfl
theorem dX1_drop_10 : decode cX1_drop 10 = .ok (.dup2, 1) := dk_get _ da_cX1_drop_0 6 _ _ _ rfl
theorem dX1_drop_11 : decode cX1_drop 11 = .ok (.iaload, 1) := dk_get _ da_cX1_drop_0 7 _ _ _ rfl
theorem dX1_drop_12 : decode cX1_drop 12 = .ok (.iconst 1, 1) := dk_get _ da_cX1_drop_0 8 _ _ _ rfl
theorem dX1_drop_13 : decode cX1_drop 13 = .ok (.isub, 1) := dk_get _ da_cX1_drop_0 9 _ _ _ rfl
theorem dX1_drop_14 : decode cX1_drop 14 = .ok (.iastore, 1) := dk_get _ da_cX1_drop_0 10 _ _ _ rfl
theorem dX1_drop_15 : decode cX1_drop 15 = .ok (.aload_n 0, 1) := dk_get _ da_cX1_drop_0 11 _ _ _ rfl
theorem dX1_drop_16 : decode cX1_drop 16 = .ok (.dup, 1) := dk_get _ da_cX1_drop_0 12 _ _ _ rfl
theorem dX1_drop_17 : decode cX1_drop 17 = .ok (.getfield 34, 3) := dk_get _ da_cX1_drop_0 13 _ _ _ rfl
theorem dX1_drop_20 : decode cX1_drop 20 = .ok (.iconst 1, 1) := dk_get _ da_cX1_drop_0 14 _ _ _ rfl
theorem dX1_drop_21 : decode cX1_drop 21 = .ok (.isub, 1) := dk_get _ da_cX1_drop_0 15 _ _ _ rfl
theorem dX1_drop_22 : decode cX1_drop 22 = .ok (.putfield 34, 3) := dk_get _ da_cX1_drop_0 16 _ _ _ rfl
theorem dX1_drop_25 : decode cX1_drop 25 = .ok (.return_, 1) := dk_get _ da_cX1_drop_0 17 _ _ _ rfl
def dt_cX1_hasMajority_0 : List (Nat × Instr × Nat) := [(0, .iconst 2, 1), (1, .aload_n 0, 1), (2, .getfield 37, 3), (5, .imul, 1), (6, .aload_n 0, 1), (7, .getfield 34, 3), (10, .if_icmp .le 7, 3), (13, .iconst 1, 1), (14, .goto 4, 3), (17, .iconst 0, 1), (18, .ireturn, 1)]
theorem da_cX1_hasMajority_0 : dk_all cX1_hasMajority dt_cX1_hasMajority_0 = true := by decide +kernel
theorem dX1_hasMajority_0 : decode cX1_hasMajority 0 = .ok (.iconst 2, 1) := dk_get _ da_cX1_hasMajority_0 0 _ _ _ rfl
theorem dX1_hasMajority_1 : decode cX1_hasMajority 1 = .ok (.aload_n 0, 1) := dk_get _ da_cX1_hasMajority_0 1 _ _ _ rfl
theorem dX1_hasMajority_2 : decode cX1_hasMajority 2 = .ok (.getfield 37, 3) := dk_get _ da_cX1_hasMajority_0 2 _ _ _ rfl
theorem dX1_hasMajority_5 : decode cX1_hasMajority 5 = .ok (.imul, 1) := dk_get _ da_cX1_hasMajority_0 3 _ _ _ rfl
theorem dX1_hasMajority_6 : decode cX1_hasMajority 6 = .ok (.aload_n 0, 1) := dk_get _ da_cX1_hasMajority_0 4 _ _ _ rfl
theorem dX1_hasMajority_7 : decode cX1_hasMajority 7 = .ok (.getfield 34, 3) := dk_get _ da_cX1_hasMajority_0 5 _ _ _ rfl
theorem dX1_hasMajority_10 : decode cX1_hasMajority 10 = .ok (.if_icmp .le 7, 3) := dk_get _ da_cX1_hasMajority_0 6 _ _ _ rfl
theorem dX1_hasMajority_13 : decode cX1_hasMajority 13 = .ok (.iconst 1, 1) := dk_get _ da_cX1_hasMajority_0 7 _ _ _ rfl
theorem dX1_hasMajority_14 : decode cX1_hasMajority 14 = .ok (.goto 4, 3) := dk_get _ da_cX1_hasMajority_0 8 _ _ _ rfl
theorem dX1_hasMajority_17 : decode cX1_hasMajority 17 = .ok (.iconst 0, 1) := dk_get _ da_cX1_hasMajority_0 9 _ _ _ rfl
theorem dX1_hasMajority_18 : decode cX1_hasMajority 18 = .ok (.ireturn, 1) := dk_get _ da_cX1_hasMajority_0 10 _ _ _ rfl
def dt_cJ7_fill_53178_0 : List (Nat × Instr × Nat) := [(0, .iconst 0, 1), (1, .istore_n 2, 1), (2, .aload_n 0, 1), (3, .arraylength, 1), (4, .istore_n 3, 1), (5, .iload_n 2, 1), (6, .iload_n 3, 1), (7, .if_icmp .ge 13, 3), (10, .aload_n 0, 1), (11, .iload_n 2, 1), (12, .iload_n 1, 1), (13, .iastore, 1), (14, .iinc 2 1, 3), (17, .goto (-12), 3), (20, .return_, 1)]
theorem da_cJ7_fill_53178_0 : dk_all cJ7_fill_53178 dt_cJ7_fill_53178_0 = true := by decide +kernel
theorem dJ7_fill_53178_0 : decode cJ7_fill_53178 0 = .ok (.iconst 0, 1) := dk_get _ da_cJ7_fill_53178_0 0 _ _ _ rfl
theorem dJ7_fill_53178_1 : decode cJ7_fill_53178 1 = .ok (.istore_n 2, 1) := dk_get _ da_cJ7_fill_53178_0 1 _ _ _ rfl
theorem dJ7_fill_53178_2 : decode cJ7_fill_53178 2 = .ok (.aload_n 0, 1) := dk_get _ da_cJ7_fill_53178_0 2 _ _ _ rfl
theorem dJ7_fill_53178_3 : decode cJ7_fill_53178 3 = .ok (.arraylength, 1) := dk_get _ da_cJ7_fill_53178_0 3 _ _ _ rfl
theorem dJ7_fill_53178_4 : decode cJ7_fill_53178 4 = .ok (.istore_n 3, 1) := dk_get _ da_cJ7_fill_53178_0 4 _ _ _ rfl
theorem dJ7_fill_53178_5 : decode cJ7_fill_53178 5 = .ok (.iload_n 2, 1) := dk_get _ da_cJ7_fill_53178_0 5 _ _ _ rfl
theorem dJ7_fill_53178_6 : decode cJ7_fill_53178 6 = .ok (.iload_n 3, 1) := dk_get _ da_cJ7_fill_53178_0 6 _ _ _ rfl
theorem dJ7_fill_53178_7 : decode cJ7_fill_53178 7 = .ok (.if_icmp .ge 13, 3) := dk_get _ da_cJ7_fill_53178_0 7 _ _ _ rfl
theorem dJ7_fill_53178_10 : decode cJ7_fill_53178 10 = .ok (.aload_n 0, 1) := dk_get _ da_cJ7_fill_53178_0 8 _ _ _ rfl
theorem dJ7_fill_53178_11 : decode cJ7_fill_53178 11 = .ok (.iload_n 2, 1) := dk_get _ da_cJ7_fill_53178_0 9 _ _ _ rfl
theorem dJ7_fill_53178_12 : decode cJ7_fill_53178 12 = .ok (.iload_n 1, 1) := dk_get _ da_cJ7_fill_53178_0 10 _ _ _ rfl
theorem dJ7_fill_53178_13 : decode cJ7_fill_53178 13 = .ok (.iastore, 1) := dk_get _ da_cJ7_fill_53178_0 11 _ _ _ rfl
theorem dJ7_fill_53178_14 : decode cJ7_fill_53178 14 = .ok (.iinc 2 1, 3) := dk_get _ da_cJ7_fill_53178_0 12 _ _ _ rfl
theorem dJ7_fill_53178_17 : decode cJ7_fill_53178 17 = .ok (.goto (-12), 3) := dk_get _ da_cJ7_fill_53178_0 13 _ _ _ rfl
theorem dJ7_fill_53178_20 : decode cJ7_fill_53178 20 = .ok (.return_, 1) := dk_get _ da_cJ7_fill_53178_0 14 _ _ _ rfl

