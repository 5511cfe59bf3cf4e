abbrev wsX10 : List Cond := u_ws RX1 TX1 4
theorem nmX1 : ∀ a, a < 4 → ∀ b, b < 4 → a ≠ b → (TX1 a).2.1 ≠ (TX1 b).2.1 := by decide +kernel
theorem tyX1_ok : ∀ k, k < 4 → parseFieldDescriptor (TX1 k).2.2.1 = some (tyX1 k) := by decide +kernel
abbrev cX1_learn : ByteArray := prog_3_method_2_code
def yX1_learn : MethodName := ⟨RX1, "learn", "(LMajorityIndex$Row;)V"⟩
abbrev cX1_clear : ByteArray := prog_3_method_3_code
def yX1_clear : MethodName := ⟨RX1, "clear", "()V"⟩
abbrev cX1_take : ByteArray := prog_3_method_4_code
def yX1_take : MethodName := ⟨RX1, "take", "(I)V"⟩
abbrev cX1_drop : ByteArray := prog_3_method_5_code
def yX1_drop : MethodName := ⟨RX1, "drop", "(I)V"⟩
abbrev cX1_hasMajority : ByteArray := prog_3_method_6_code
def yX1_hasMajority : MethodName := ⟨RX1, "hasMajority", "()Z"⟩
def RJ7 : String := "java/util/Arrays"
abbrev cJ7_fill_53178 : ByteArray := prog_13_method_103_code
def yJ7_fill_53178 : MethodName := ⟨RJ7, "fill", "([II)V"⟩
def wsX1_learn : List Cond := .code yX1_learn cX1_learn 3 none :: ([.fieldLink RX1 18 "MajorityIndex$Row" "length" "I", .fieldLink RX1 9 "MajorityIndex$Tally" "kind" "[I", .methodLink RX1 24 yX0_firstLike, .instanceMethod yX0_firstLike, .selects RX0 yX0_firstLike yX0_firstLike, .initialized RX0, .code yX0_firstLike cX0_firstLike 3 (some .int), .fieldLink RX0 9 "MajorityIndex$Row" "cell" "[I"] ++ wsX00 ++ wsX10)
def wsJ7_fill_53178 : List Cond := .code yJ7_fill_53178 cJ7_fill_53178 4 none :: ([])
def wsX1_clear : List Cond := .code yX1_clear cX1_clear 1 none :: ([.fieldLink RX1 15 "MajorityIndex$Tally" "often" "[I", .fieldLink RX1 34 "MajorityIndex$Tally" "taken" "I", .fieldLink RX1 37 "MajorityIndex$Tally" "most" "I", .methodLink RX1 28 yJ7_fill_53178, .static yJ7_fill_53178, .initialized RJ7, .code yJ7_fill_53178 cJ7_fill_53178 4 none] ++ wsX10)
def wsX1_take : List Cond := .code yX1_take cX1_take 3 none :: ([.fieldLink RX1 15 "MajorityIndex$Tally" "often" "[I", .fieldLink RX1 9 "MajorityIndex$Tally" "kind" "[I", .fieldLink RX1 34 "MajorityIndex$Tally" "taken" "I", .fieldLink RX1 37 "MajorityIndex$Tally" "most" "I"] ++ wsX10)
def wsX1_drop : List Cond := .code yX1_drop cX1_drop 2 none :: ([.fieldLink RX1 15 "MajorityIndex$Tally" "often" "[I", .fieldLink RX1 9 "MajorityIndex$Tally" "kind" "[I", .fieldLink RX1 34 "MajorityIndex$Tally" "taken" "I"] ++ wsX10)
def wsX1_hasMajority : List Cond := .code yX1_hasMajority cX1_hasMajority 1 (some .boolean) :: ([.fieldLink RX1 37 "MajorityIndex$Tally" "most" "I", .fieldLink RX1 34 "MajorityIndex$Tally" "taken" "I"] ++ wsX10)
set_option maxRecDepth 20000 in
theorem ggX1_learn_X0_firstLike : GoodIn wsX1_learn wsX0_firstLike := goodIn_r _ [7, 8, 9, 10] rfl (by decide +kernel)
set_option maxRecDepth 20000 in
theorem gX1_learn_X0_firstLike : GoodIn wsX1_learn (wsV RX1 24 RX0 yX0_firstLike wsX0_firstLike) := goodIn_app (goodIn_r _ [3, 4, 5, 6] rfl (by decide +kernel)) ggX1_learn_X0_firstLike
def dt_cX1_learn_0 : List (Nat × Nat × Nat × Nat) := [(0, 3, 0, 0), (1, 61, 0, 0), (2, 28, 0, 0), (3, 43, 0, 0), (4, 180, 2, 18), (7, 162, 2, 20), (10, 42, 0, 0), (11, 180, 2, 9), (14, 28, 0, 0), (15, 43, 0, 0), (16, 28, 0, 0), (17, 182, 2, 24), (20, 79, 0, 0), (21, 132, 2, 513), (24, 167, 2, 65514), (27, 177, 0, 0)]
theorem da_cX1_learn_0 : fw dt_cX1_learn_0 0 cX1_learn.data.toList = true := by decide +kernel
theorem dX1_learn_0 : decode cX1_learn 0 = .ok (.iconst 0, 1) := fo_3 (fw_get da_cX1_learn_0 0 rfl)
theorem dX1_learn_1 : decode cX1_learn 1 = .ok (.istore_n 2, 1) := fo_61 (fw_get da_cX1_learn_0 1 rfl)
theorem dX1_learn_2 : decode cX1_learn 2 = .ok (.iload_n 2, 1) := fo_28 (fw_get da_cX1_learn_0 2 rfl)
theorem dX1_learn_3 : decode cX1_learn 3 = .ok (.aload_n 1, 1) := fo_43 (fw_get da_cX1_learn_0 3 rfl)
theorem dX1_learn_4 : decode cX1_learn 4 = .ok (.getfield 18, 3) := fo_180 (fw_get da_cX1_learn_0 4 rfl)
theorem dX1_learn_7 : decode cX1_learn 7 = .ok (.if_icmp .ge 20, 3) := fo_162 (fw_get da_cX1_learn_0 5 rfl) (by decide +kernel)
theorem dX1_learn_10 : decode cX1_learn 10 = .ok (.aload_n 0, 1) := fo_42 (fw_get da_cX1_learn_0 6 rfl)
theorem dX1_learn_11 : decode cX1_learn 11 = .ok (.getfield 9, 3) := fo_180 (fw_get da_cX1_learn_0 7 rfl)
theorem dX1_learn_14 : decode cX1_learn 14 = .ok (.iload_n 2, 1) := fo_28 (fw_get da_cX1_learn_0 8 rfl)
theorem dX1_learn_15 : decode cX1_learn 15 = .ok (.aload_n 1, 1) := fo_43 (fw_get da_cX1_learn_0 9 rfl)
theorem dX1_learn_16 : decode cX1_learn 16 = .ok (.iload_n 2, 1) := fo_28 (fw_get da_cX1_learn_0 10 rfl)
theorem dX1_learn_17 : decode cX1_learn 17 = .ok (.invokevirtual 24, 3) := fo_182 (fw_get da_cX1_learn_0 11 rfl)
theorem dX1_learn_20 : decode cX1_learn 20 = .ok (.iastore, 1) := fo_79 (fw_get da_cX1_learn_0 12 rfl)
theorem dX1_learn_21 : decode cX1_learn 21 = .ok (.iinc 2 1, 3) := fo_132 (fw_get da_cX1_learn_0 13 rfl) rfl (by decide +kernel)
theorem dX1_learn_24 : decode cX1_learn 24 = .ok (.goto (-22), 3) := fo_167 (fw_get da_cX1_learn_0 14 rfl) (by decide +kernel)
theorem dX1_learn_27 : decode cX1_learn 27 = .ok (.return_, 1) := fo_177 (fw_get da_cX1_learn_0 15 rfl)
set_option maxRecDepth 20000 in
theorem ggX1_clear_J7_fill_53178 : GoodIn wsX1_clear wsJ7_fill_53178 := goodIn_r _ [7] rfl (by decide +kernel)
set_option maxRecDepth 20000 in
theorem gX1_clear_J7_fill_53178 : GoodIn wsX1_clear (va_wsS RX1 28 yJ7_fill_53178 wsJ7_fill_53178) := goodIn_app (goodIn_r _ [4, 5, 6] rfl (by decide +kernel)) ggX1_clear_J7_fill_53178
def dt_cX1_clear_0 : List (Nat × Nat × Nat × Nat) := [(0, 42, 0, 0), (1, 180, 2, 15), (4, 3, 0, 0), (5, 184, 2, 28), (8, 42, 0, 0), (9, 3, 0, 0), (10, 181, 2, 34), (13, 42, 0, 0), (14, 3, 0, 0), (15, 181, 2, 37), (18, 177, 0, 0)]
theorem da_cX1_clear_0 : fw dt_cX1_clear_0 0 cX1_clear.data.toList = true := by decide +kernel
theorem dX1_clear_0 : decode cX1_clear 0 = .ok (.aload_n 0, 1) := fo_42 (fw_get da_cX1_clear_0 0 rfl)
theorem dX1_clear_1 : decode cX1_clear 1 = .ok (.getfield 15, 3) := fo_180 (fw_get da_cX1_clear_0 1 rfl)
theorem dX1_clear_4 : decode cX1_clear 4 = .ok (.iconst 0, 1) := fo_3 (fw_get da_cX1_clear_0 2 rfl)
theorem dX1_clear_5 : decode cX1_clear 5 = .ok (.invokestatic 28, 3) := fo_184 (fw_get da_cX1_clear_0 3 rfl)
theorem dX1_clear_8 : decode cX1_clear 8 = .ok (.aload_n 0, 1) := fo_42 (fw_get da_cX1_clear_0 4 rfl)
theorem dX1_clear_9 : decode cX1_clear 9 = .ok (.iconst 0, 1) := fo_3 (fw_get da_cX1_clear_0 5 rfl)
theorem dX1_clear_10 : decode cX1_clear 10 = .ok (.putfield 34, 3) := fo_181 (fw_get da_cX1_clear_0 6 rfl)
theorem dX1_clear_13 : decode cX1_clear 13 = .ok (.aload_n 0, 1) := fo_42 (fw_get da_cX1_clear_0 7 rfl)
theorem dX1_clear_14 : decode cX1_clear 14 = .ok (.iconst 0, 1) := fo_3 (fw_get da_cX1_clear_0 8 rfl)
theorem dX1_clear_15 : decode cX1_clear 15 = .ok (.putfield 37, 3) := fo_181 (fw_get da_cX1_clear_0 9 rfl)
theorem dX1_clear_18 : decode cX1_clear 18 = .ok (.return_, 1) := fo_177 (fw_get da_cX1_clear_0 10 rfl)
def dt_cX1_take_0 : List (Nat × Nat × Nat × Nat) := [(0, 42, 0, 0), (1, 180, 2, 15), (4, 42, 0, 0), (5, 180, 2, 9), (8, 27, 0, 0), (9, 46, 0, 0), (10, 46, 0, 0), (11, 4, 0, 0), (12, 96, 0, 0), (13, 61, 0, 0), (14, 42, 0, 0), (15, 180, 2, 15), (18, 42, 0, 0), (19, 180, 2, 9), (22, 27, 0, 0), (23, 46, 0, 0), (24, 28, 0, 0), (25, 79, 0, 0), (26, 42, 0, 0), (27, 89, 0, 0)]
theorem da_cX1_take_0 : fw dt_cX1_take_0 0 cX1_take.data.toList = true := by decide +kernel
theorem dX1_take_0 : decode cX1_take 0 = .ok (.aload_n 0, 1) := fo_42 (fw_get da_cX1_take_0 0 rfl)
theorem dX1_take_1 : decode cX1_take 1 = .ok (.getfield 15, 3) := fo_180 (fw_get da_cX1_take_0 1 rfl)
theorem dX1_take_4 : decode cX1_take 4 = .ok (.aload_n 0, 1) := fo_42 (fw_get da_cX1_take_0 2 rfl)
theorem dX1_take_5 : decode cX1_take 5 = .ok (.getfield 9, 3) := fo_180 (fw_get da_cX1_take_0 3 rfl)
theorem dX1_take_8 : decode cX1_take 8 = .ok (.iload_n 1, 1) := fo_27 (fw_get da_cX1_take_0 4 rfl)
theorem dX1_take_9 : decode cX1_take 9 = .ok (.iaload, 1) := fo_46 (fw_get da_cX1_take_0 5 rfl)
theorem dX1_take_10 : decode cX1_take 10 = .ok (.iaload, 1) := fo_46 (fw_get da_cX1_take_0 6 rfl)
theorem dX1_take_11 : decode cX1_take 11 = .ok (.iconst 1, 1) := fo_4 (fw_get da_cX1_take_0 7 rfl)
theorem dX1_take_12 : decode cX1_take 12 = .ok (.iadd, 1) := fo_96 (fw_get da_cX1_take_0 8 rfl)
theorem dX1_take_13 : decode cX1_take 13 = .ok (.istore_n 2, 1) := fo_61 (fw_get da_cX1_take_0 9 rfl)
theorem dX1_take_14 : decode cX1_take 14 = .ok (.aload_n 0, 1) := fo_42 (fw_get da_cX1_take_0 10 rfl)
theorem dX1_take_15 : decode cX1_take 15 = .ok (.getfield 15, 3) := fo_180 (fw_get da_cX1_take_0 11 rfl)
theorem dX1_take_18 : decode cX1_take 18 = .ok (.aload_n 0, 1) := fo_42 (fw_get da_cX1_take_0 12 rfl)
theorem dX1_take_19 : decode cX1_take 19 = .ok (.getfield 9, 3) := fo_180 (fw_get da_cX1_take_0 13 rfl)
theorem dX1_take_22 : decode cX1_take 22 = .ok (.iload_n 1, 1) := fo_27 (fw_get da_cX1_take_0 14 rfl)
theorem dX1_take_23 : decode cX1_take 23 = .ok (.iaload, 1) := fo_46 (fw_get da_cX1_take_0 15 rfl)
theorem dX1_take_24 : decode cX1_take 24 = .ok (.iload_n 2, 1) := fo_28 (fw_get da_cX1_take_0 16 rfl)
theorem dX1_take_25 : decode cX1_take 25 = .ok (.iastore, 1) := fo_79 (fw_get da_cX1_take_0 17 rfl)
theorem dX1_take_26 : decode cX1_take 26 = .ok (.aload_n 0, 1) := fo_42 (fw_get da_cX1_take_0 18 rfl)
theorem dX1_take_27 : decode cX1_take 27 = .ok (.dup, 1) := fo_89 (fw_get da_cX1_take_0 19 rfl)
def dt_cX1_take_1 : List (Nat × Nat × Nat × Nat) := [(28, 180, 2, 34), (31, 4, 0, 0), (32, 96, 0, 0), (33, 181, 2, 34), (36, 28, 0, 0), (37, 42, 0, 0), (38, 180, 2, 37), (41, 164, 2, 8), (44, 42, 0, 0), (45, 28, 0, 0), (46, 181, 2, 37), (49, 177, 0, 0)]
theorem da_cX1_take_1 : fw dt_cX1_take_1 0 cX1_take.data.toList = true := by decide +kernel
theorem dX1_take_28 : decode cX1_take 28 = .ok (.getfield 34, 3) := fo_180 (fw_get da_cX1_take_1 0 rfl)
theorem dX1_take_31 : decode cX1_take 31 = .ok (.iconst 1, 1) := fo_4 (fw_get da_cX1_take_1 1 rfl)
theorem dX1_take_32 : decode cX1_take 32 = .ok (.iadd, 1) := fo_96 (fw_get da_cX1_take_1 2 rfl)
theorem dX1_take_33 : decode cX1_take 33 = .ok (.putfield 34, 3) := fo_181 (fw_get da_cX1_take_1 3 rfl)
theorem dX1_take_36 : decode cX1_take 36 = .ok (.iload_n 2, 1) := fo_28 (fw_get da_cX1_take_1 4 rfl)
theorem dX1_take_37 : decode cX1_take 37 = .ok (.aload_n 0, 1) := fo_42 (fw_get da_cX1_take_1 5 rfl)
theorem dX1_take_38 : decode cX1_take 38 = .ok (.getfield 37, 3) := fo_180 (fw_get da_cX1_take_1 6 rfl)
theorem dX1_take_41 : decode cX1_take 41 = .ok (.if_icmp .le 8, 3) := fo_164 (fw_get da_cX1_take_1 7 rfl) (by decide +kernel)
theorem dX1_take_44 : decode cX1_take 44 = .ok (.aload_n 0, 1) := fo_42 (fw_get da_cX1_take_1 8 rfl)
theorem dX1_take_45 : decode cX1_take 45 = .ok (.iload_n 2, 1) := fo_28 (fw_get da_cX1_take_1 9 rfl)
theorem dX1_take_46 : decode cX1_take 46 = .ok (.putfield 37, 3) := fo_181 (fw_get da_cX1_take_1 10 rfl)
theorem dX1_take_49 : decode cX1_take 49 = .ok (.return_, 1) := fo_177 (fw_get da_cX1_take_1 11 rfl)
def dt_cX1_drop_0 : List (Nat × Nat × Nat × Nat) := [(0, 42, 0, 0), (1, 180, 2, 15), (4, 42, 0, 0), (5, 180, 2, 9), (8, 27, 0, 0), (9, 46, 0, 0), (10, 92, 0, 0), (11, 46, 0, 0), (12, 4, 0, 0), (13, 100, 0, 0), (14, 79, 0, 0), (15, 42, 0, 0), (16, 89, 0, 0), (17, 180, 2, 34), (20, 4, 0, 0), (21, 100, 0, 0), (22, 181, 2, 34), (25, 177, 0, 0)]
theorem da_cX1_drop_0 : fw dt_cX1_drop_0 0 cX1_drop.data.toList = true := by decide +kernel
theorem dX1_drop_0 : decode cX1_drop 0 = .ok (.aload_n 0, 1) := fo_42 (fw_get da_cX1_drop_0 0 rfl)
theorem dX1_drop_1 : decode cX1_drop 1 = .ok (.getfield 15, 3) := fo_180 (fw_get da_cX1_drop_0 1 rfl)
theorem dX1_drop_4 : decode cX1_drop 4 = .ok (.aload_n 0, 1) := fo_42 (fw_get da_cX1_drop_0 2 rfl)
theorem dX1_drop_5 : decode cX1_drop 5 = .ok (.getfield 9, 3) := fo_180 (fw_get da_cX1_drop_0 3 rfl)
theorem dX1_drop_8 : decode cX1_drop 8 = .ok (.iload_n 1, 1) := fo_27 (fw_get da_cX1_drop_0 4 rfl)
theorem dX1_drop_9 : decode cX1_drop 9 = .ok (.iaload, 1) := fo_46 (fw_get da_cX1_drop_0 5 rfl)
theorem dX1_drop_10 : decode cX1_drop 10 = .ok (.dup2, 1) := fo_92 (fw_get da_cX1_drop_0 6 rfl)
theorem dX1_drop_11 : decode cX1_drop 11 = .ok (.iaload, 1) := fo_46 (fw_get da_cX1_drop_0 7 rfl)
theorem dX1_drop_12 : decode cX1_drop 12 = .ok (.iconst 1, 1) := fo_4 (fw_get da_cX1_drop_0 8 rfl)
theorem dX1_drop_13 : decode cX1_drop 13 = .ok (.isub, 1) := fo_100 (fw_get da_cX1_drop_0 9 rfl)
theorem dX1_drop_14 : decode cX1_drop 14 = .ok (.iastore, 1) := fo_79 (fw_get da_cX1_drop_0 10 rfl)
theorem dX1_drop_15 : decode cX1_drop 15 = .ok (.aload_n 0, 1) := fo_42 (fw_get da_cX1_drop_0 11 rfl)
theorem dX1_drop_16 : decode cX1_drop 16 = .ok (.dup, 1) := fo_89 (fw_get da_cX1_drop_0 12 rfl)
theorem dX1_drop_17 : decode cX1_drop 17 = .ok (.getfield 34, 3) := fo_180 (fw_get da_cX1_drop_0 13 rfl)
theorem dX1_drop_20 : decode cX1_drop 20 = .ok (.iconst 1, 1) := fo_4 (fw_get da_cX1_drop_0 14 rfl)
theorem dX1_drop_21 : decode cX1_drop 21 = .ok (.isub, 1) := fo_100 (fw_get da_cX1_drop_0 15 rfl)
theorem dX1_drop_22 : decode cX1_drop 22 = .ok (.putfield 34, 3) := fo_181 (fw_get da_cX1_drop_0 16 rfl)
theorem dX1_drop_25 : decode cX1_drop 25 = .ok (.return_, 1) := fo_177 (fw_get da_cX1_drop_0 17 rfl)
def dt_cX1_hasMajority_0 : List (Nat × Nat × Nat × Nat) := [(0, 5, 0, 0), (1, 42, 0, 0), (2, 180, 2, 37), (5, 104, 0, 0), (6, 42, 0, 0), (7, 180, 2, 34), (10, 164, 2, 7), (13, 4, 0, 0), (14, 167, 2, 4), (17, 3, 0, 0), (18, 172, 0, 0)]
theorem da_cX1_hasMajority_0 : fw dt_cX1_hasMajority_0 0 cX1_hasMajority.data.toList = true := by decide +kernel
theorem dX1_hasMajority_0 : decode cX1_hasMajority 0 = .ok (.iconst 2, 1) := fo_5 (fw_get da_cX1_hasMajority_0 0 rfl)
theorem dX1_hasMajority_1 : decode cX1_hasMajority 1 = .ok (.aload_n 0, 1) := fo_42 (fw_get da_cX1_hasMajority_0 1 rfl)
theorem dX1_hasMajority_2 : decode cX1_hasMajority 2 = .ok (.getfield 37, 3) := fo_180 (fw_get da_cX1_hasMajority_0 2 rfl)
theorem dX1_hasMajority_5 : decode cX1_hasMajority 5 = .ok (.imul, 1) := fo_104 (fw_get da_cX1_hasMajority_0 3 rfl)
theorem dX1_hasMajority_6 : decode cX1_hasMajority 6 = .ok (.aload_n 0, 1) := fo_42 (fw_get da_cX1_hasMajority_0 4 rfl)
theorem dX1_hasMajority_7 : decode cX1_hasMajority 7 = .ok (.getfield 34, 3) := fo_180 (fw_get da_cX1_hasMajority_0 5 rfl)
theorem dX1_hasMajority_10 : decode cX1_hasMajority 10 = .ok (.if_icmp .le 7, 3) := fo_164 (fw_get da_cX1_hasMajority_0 6 rfl) (by decide +kernel)
theorem dX1_hasMajority_13 : decode cX1_hasMajority 13 = .ok (.iconst 1, 1) := fo_4 (fw_get da_cX1_hasMajority_0 7 rfl)
theorem dX1_hasMajority_14 : decode cX1_hasMajority 14 = .ok (.goto 4, 3) := fo_167 (fw_get da_cX1_hasMajority_0 8 rfl) (by decide +kernel)
theorem dX1_hasMajority_17 : decode cX1_hasMajority 17 = .ok (.iconst 0, 1) := fo_3 (fw_get da_cX1_hasMajority_0 9 rfl)
theorem dX1_hasMajority_18 : decode cX1_hasMajority 18 = .ok (.ireturn, 1) := fo_172 (fw_get da_cX1_hasMajority_0 10 rfl)
def dt_cJ7_fill_53178_0 : List (Nat × Nat × Nat × Nat) := [(0, 3, 0, 0), (1, 61, 0, 0), (2, 42, 0, 0), (3, 190, 0, 0), (4, 62, 0, 0), (5, 28, 0, 0), (6, 29, 0, 0), (7, 162, 2, 13), (10, 42, 0, 0), (11, 28, 0, 0), (12, 27, 0, 0), (13, 79, 0, 0), (14, 132, 2, 513), (17, 167, 2, 65524), (20, 177, 0, 0)]
theorem da_cJ7_fill_53178_0 : fw dt_cJ7_fill_53178_0 0 cJ7_fill_53178.data.toList = true := by decide +kernel
theorem dJ7_fill_53178_0 : decode cJ7_fill_53178 0 = .ok (.iconst 0, 1) := fo_3 (fw_get da_cJ7_fill_53178_0 0 rfl)
theorem dJ7_fill_53178_1 : decode cJ7_fill_53178 1 = .ok (.istore_n 2, 1) := fo_61 (fw_get da_cJ7_fill_53178_0 1 rfl)
theorem dJ7_fill_53178_2 : decode cJ7_fill_53178 2 = .ok (.aload_n 0, 1) := fo_42 (fw_get da_cJ7_fill_53178_0 2 rfl)
theorem dJ7_fill_53178_3 : decode cJ7_fill_53178 3 = .ok (.arraylength, 1) := fo_190 (fw_get da_cJ7_fill_53178_0 3 rfl)
theorem dJ7_fill_53178_4 : decode cJ7_fill_53178 4 = .ok (.istore_n 3, 1) := fo_62 (fw_get da_cJ7_fill_53178_0 4 rfl)
theorem dJ7_fill_53178_5 : decode cJ7_fill_53178 5 = .ok (.iload_n 2, 1) := fo_28 (fw_get da_cJ7_fill_53178_0 5 rfl)
theorem dJ7_fill_53178_6 : decode cJ7_fill_53178 6 = .ok (.iload_n 3, 1) := fo_29 (fw_get da_cJ7_fill_53178_0 6 rfl)
theorem dJ7_fill_53178_7 : decode cJ7_fill_53178 7 = .ok (.if_icmp .ge 13, 3) := fo_162 (fw_get da_cJ7_fill_53178_0 7 rfl) (by decide +kernel)
theorem dJ7_fill_53178_10 : decode cJ7_fill_53178 10 = .ok (.aload_n 0, 1) := fo_42 (fw_get da_cJ7_fill_53178_0 8 rfl)
theorem dJ7_fill_53178_11 : decode cJ7_fill_53178 11 = .ok (.iload_n 2, 1) := fo_28 (fw_get da_cJ7_fill_53178_0 9 rfl)
theorem dJ7_fill_53178_12 : decode cJ7_fill_53178 12 = .ok (.iload_n 1, 1) := fo_27 (fw_get da_cJ7_fill_53178_0 10 rfl)
theorem dJ7_fill_53178_13 : decode cJ7_fill_53178 13 = .ok (.iastore, 1) := fo_79 (fw_get da_cJ7_fill_53178_0 11 rfl)
theorem dJ7_fill_53178_14 : decode cJ7_fill_53178 14 = .ok (.iinc 2 1, 3) := fo_132 (fw_get da_cJ7_fill_53178_0 12 rfl) rfl (by decide +kernel)
theorem dJ7_fill_53178_17 : decode cJ7_fill_53178 17 = .ok (.goto (-12), 3) := fo_167 (fw_get da_cJ7_fill_53178_0 13 rfl) (by decide +kernel)
theorem dJ7_fill_53178_20 : decode cJ7_fill_53178 20 = .ok (.return_, 1) := fo_177 (fw_get da_cJ7_fill_53178_0 14 rfl)

